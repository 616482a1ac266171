theorem li_X8 : Cond.initialized RX8 ∈ ng_G := ng_inG (i := 58) (by decide +kernel) (by decide +kernel)
theorem li_X7 : Cond.initialized RX7 ∈ ng_G := ng_inG (i := 59) (by decide +kernel) (by decide +kernel)
theorem li_X3 : Cond.initialized RX3 ∈ ng_G := ng_inG (i := 60) (by decide +kernel) (by decide +kernel)
theorem li_X0 : Cond.initialized RX0 ∈ ng_G := ng_inG (i := 61) (by decide +kernel) (by decide +kernel)
theorem li_X5 : Cond.initialized RX5 ∈ ng_G := ng_inG (i := 62) (by decide +kernel) (by decide +kernel)
theorem li_X1 : Cond.initialized RX1 ∈ ng_G := ng_inG (i := 63) (by decide +kernel) (by decide +kernel)
theorem li_X6 : Cond.initialized RX6 ∈ ng_G := ng_inG (i := 64) (by decide +kernel) (by decide +kernel)
theorem li_X2 : Cond.initialized RX2 ∈ ng_G := ng_inG (i := 65) (by decide +kernel) (by decide +kernel)
theorem li_X4 : Cond.initialized RX4 ∈ ng_G := ng_inG (i := 66) (by decide +kernel) (by decide +kernel)
theorem li_X9 : Cond.initialized RX9 ∈ ng_G := ng_inG (i := 67) (by decide +kernel) (by decide +kernel)
theorem li_J9 : Cond.initialized RJ9 ∈ ng_G := ng_inG (i := 68) (by decide +kernel) (by decide +kernel)
theorem li_J10 : Cond.initialized RJ10 ∈ ng_G := ng_inG (i := 69) (by decide +kernel) (by decide +kernel)
theorem li_J0 : Cond.initialized RJ0 ∈ ng_G := ng_inG (i := 70) (by decide +kernel) (by decide +kernel)
theorem li_J1 : Cond.initialized RJ1 ∈ ng_G := ng_inG (i := 71) (by decide +kernel) (by decide +kernel)
theorem li_J3 : Cond.initialized RJ3 ∈ ng_G := ng_inG (i := 72) (by decide +kernel) (by decide +kernel)
theorem li_J2 : Cond.initialized RJ2 ∈ ng_G := ng_inG (i := 73) (by decide +kernel) (by decide +kernel)
theorem lw_X0 : ∀ w ∈ u_ws RX0 TX0 4, w ∈ ng_G := fun w h => List.mem_filter.mpr ⟨(show ∀ w ∈ u_ws RX0 TX0 4, w ∈ lw_tbl by decide +kernel) w h, (show ∀ w ∈ u_ws RX0 TX0 4, goodWord w = true by decide +kernel) w h⟩
theorem lw_X1 : ∀ w ∈ u_ws RX1 TX1 6, w ∈ ng_G := fun w h => List.mem_filter.mpr ⟨(show ∀ w ∈ u_ws RX1 TX1 6, w ∈ lw_tbl by decide +kernel) w h, (show ∀ w ∈ u_ws RX1 TX1 6, goodWord w = true by decide +kernel) w h⟩
theorem lw_X2 : ∀ w ∈ u_ws RX2 TX2 6, w ∈ ng_G := fun w h => List.mem_filter.mpr ⟨(show ∀ w ∈ u_ws RX2 TX2 6, w ∈ lw_tbl by decide +kernel) w h, (show ∀ w ∈ u_ws RX2 TX2 6, goodWord w = true by decide +kernel) w h⟩
theorem lw_X3 : ∀ w ∈ u_ws RX3 TX3 7, w ∈ ng_G := fun w h => List.mem_filter.mpr ⟨(show ∀ w ∈ u_ws RX3 TX3 7, w ∈ lw_tbl by decide +kernel) w h, (show ∀ w ∈ u_ws RX3 TX3 7, goodWord w = true by decide +kernel) w h⟩
theorem lw_X4 : ∀ w ∈ u_ws RX4 TX4 3, w ∈ ng_G := fun w h => List.mem_filter.mpr ⟨(show ∀ w ∈ u_ws RX4 TX4 3, w ∈ lw_tbl by decide +kernel) w h, (show ∀ w ∈ u_ws RX4 TX4 3, goodWord w = true by decide +kernel) w h⟩
theorem lw_X5 : ∀ w ∈ u_ws RX5 TX5 12, w ∈ ng_G := fun w h => List.mem_filter.mpr ⟨(show ∀ w ∈ u_ws RX5 TX5 12, w ∈ lw_tbl by decide +kernel) w h, (show ∀ w ∈ u_ws RX5 TX5 12, goodWord w = true by decide +kernel) w h⟩
theorem lw_X6 : ∀ w ∈ u_ws RX6 TX6 5, w ∈ ng_G := fun w h => List.mem_filter.mpr ⟨(show ∀ w ∈ u_ws RX6 TX6 5, w ∈ lw_tbl by decide +kernel) w h, (show ∀ w ∈ u_ws RX6 TX6 5, goodWord w = true by decide +kernel) w h⟩
theorem lw_X7 : ∀ w ∈ u_ws RX7 TX7 8, w ∈ ng_G := fun w h => List.mem_filter.mpr ⟨(show ∀ w ∈ u_ws RX7 TX7 8, w ∈ lw_tbl by decide +kernel) w h, (show ∀ w ∈ u_ws RX7 TX7 8, goodWord w = true by decide +kernel) w h⟩
theorem lw_X8 : ∀ w ∈ u_ws RX8 TX8 8, w ∈ ng_G := fun w h => List.mem_filter.mpr ⟨(show ∀ w ∈ u_ws RX8 TX8 8, w ∈ lw_tbl by decide +kernel) w h, (show ∀ w ∈ u_ws RX8 TX8 8, goodWord w = true by decide +kernel) w h⟩
theorem lw_X9 : ∀ w ∈ u_ws RX9 TX9 25, w ∈ ng_G := fun w h => List.mem_filter.mpr ⟨(show ∀ w ∈ u_ws RX9 TX9 25, w ∈ lw_tbl by decide +kernel) w h, (show ∀ w ∈ u_ws RX9 TX9 25, goodWord w = true by decide +kernel) w h⟩
abbrev mi_X8_init : ng_Y := (yX8_init, cX8_init, 2, none)
abbrev mi_X7_init : ng_Y := (yX7_init, cX7_init, 1, none)
abbrev mi_X3_init : ng_Y := (yX3_init, cX3_init, 2, none)
abbrev mi_X0_init : ng_Y := (yX0_init, cX0_init, 1, none)
abbrev mi_X5_init : ng_Y := (yX5_init, cX5_init, 2, none)
abbrev mi_X1_init : ng_Y := (yX1_init, cX1_init, 3, none)
abbrev mi_X6_init : ng_Y := (yX6_init, cX6_init, 1, none)
abbrev mi_X2_init : ng_Y := (yX2_init, cX2_init, 1, none)
abbrev mi_X4_init : ng_Y := (yX4_init, cX4_init, 1, none)
abbrev mi_X8_coins : ng_Y := (yX8_coins, cX8_coins, 4, some .int)
theorem my_X8_coins : ng_MY mi_X8_coins 2 := ⟨ng_inG (i := 369) (by decide +kernel) (by decide +kernel), li_X8, by decide +kernel, by decide⟩
theorem ms_X8_coins : Cond.instanceMethod yX8_coins ∈ ng_G ∧ Cond.selects yX8_coins.cls yX8_coins yX8_coins ∈ ng_G := ⟨ng_inG (i := 367) (by decide +kernel) (by decide +kernel), ng_inG (i := 368) (by decide +kernel) (by decide +kernel)⟩
abbrev mi_X8_isStep : ng_Y := (yX8_isStep, cX8_isStep, 1, some .boolean)
theorem my_X8_isStep : ng_MY mi_X8_isStep 1 := ⟨ng_inG (i := 372) (by decide +kernel) (by decide +kernel), li_X8, by decide +kernel, by decide⟩
theorem ms_X8_isStep : Cond.static yX8_isStep ∈ ng_G := ng_inG (i := 371) (by decide +kernel) (by decide +kernel)
abbrev mi_X8_isWithin : ng_Y := (yX8_isWithin, cX8_isWithin, 3, some .boolean)
theorem my_X8_isWithin : ng_MY mi_X8_isWithin 3 := ⟨ng_inG (i := 375) (by decide +kernel) (by decide +kernel), li_X8, by decide +kernel, by decide⟩
theorem ms_X8_isWithin : Cond.static yX8_isWithin ∈ ng_G := ng_inG (i := 374) (by decide +kernel) (by decide +kernel)
abbrev mi_X8_fails : ng_Y := (yX8_fails, cX8_fails, 3, some .int)
theorem my_X8_fails : ng_MY mi_X8_fails 1 := ⟨ng_inG (i := 380) (by decide +kernel) (by decide +kernel), li_X8, by decide +kernel, by decide⟩
theorem ms_X8_fails : Cond.instanceMethod yX8_fails ∈ ng_G ∧ Cond.selects yX8_fails.cls yX8_fails yX8_fails ∈ ng_G := ⟨ng_inG (i := 379) (by decide +kernel) (by decide +kernel), ng_inG (i := 0) (by decide +kernel) (by decide +kernel)⟩
abbrev mi_X8_set : ng_Y := (yX8_set, cX8_set, 4, some .int)
theorem my_X8_set : ng_MY mi_X8_set 2 := ⟨ng_inG (i := 385) (by decide +kernel) (by decide +kernel), li_X8, by decide +kernel, by decide⟩
theorem ms_X8_set : Cond.instanceMethod yX8_set ∈ ng_G ∧ Cond.selects yX8_set.cls yX8_set yX8_set ∈ ng_G := ⟨ng_inG (i := 383) (by decide +kernel) (by decide +kernel), ng_inG (i := 384) (by decide +kernel) (by decide +kernel)⟩
abbrev mi_X5_setting : ng_Y := (yX5_setting, cX5_setting, 2, some .int)
theorem my_X5_setting : ng_MY mi_X5_setting 1 := ⟨ng_inG (i := 393) (by decide +kernel) (by decide +kernel), li_X5, by decide +kernel, by decide⟩
theorem ms_X5_setting : Cond.instanceMethod yX5_setting ∈ ng_G ∧ Cond.selects yX5_setting.cls yX5_setting yX5_setting ∈ ng_G := ⟨ng_inG (i := 391) (by decide +kernel) (by decide +kernel), ng_inG (i := 392) (by decide +kernel) (by decide +kernel)⟩
abbrev mi_X5_change : ng_Y := (yX5_change, cX5_change, 3, none)
theorem my_X5_change : ng_MY mi_X5_change 2 := ⟨ng_inG (i := 397) (by decide +kernel) (by decide +kernel), li_X5, by decide +kernel, by decide⟩
theorem ms_X5_change : Cond.instanceMethod yX5_change ∈ ng_G ∧ Cond.selects yX5_change.cls yX5_change yX5_change ∈ ng_G := ⟨ng_inG (i := 395) (by decide +kernel) (by decide +kernel), ng_inG (i := 396) (by decide +kernel) (by decide +kernel)⟩
abbrev mi_X8_buyer : ng_Y := (yX8_buyer, cX8_buyer, 5, some .int)
theorem my_X8_buyer : ng_MY mi_X8_buyer 3 := ⟨ng_inG (i := 401) (by decide +kernel) (by decide +kernel), li_X8, by decide +kernel, by decide⟩
theorem ms_X8_buyer : Cond.instanceMethod yX8_buyer ∈ ng_G ∧ Cond.selects yX8_buyer.cls yX8_buyer yX8_buyer ∈ ng_G := ⟨ng_inG (i := 399) (by decide +kernel) (by decide +kernel), ng_inG (i := 400) (by decide +kernel) (by decide +kernel)⟩
abbrev mi_X8_isBuyerAsTold : ng_Y := (yX8_isBuyerAsTold, cX8_isBuyerAsTold, 3, some .boolean)
theorem my_X8_isBuyerAsTold : ng_MY mi_X8_isBuyerAsTold 3 := ⟨ng_inG (i := 404) (by decide +kernel) (by decide +kernel), li_X8, by decide +kernel, by decide⟩
theorem ms_X8_isBuyerAsTold : Cond.static yX8_isBuyerAsTold ∈ ng_G := ng_inG (i := 403) (by decide +kernel) (by decide +kernel)
abbrev mi_X7_comes : ng_Y := (yX7_comes, cX7_comes, 5, some .int)
theorem my_X7_comes : ng_MY mi_X7_comes 3 := ⟨ng_inG (i := 408) (by decide +kernel) (by decide +kernel), li_X7, by decide +kernel, by decide⟩
theorem ms_X7_comes : Cond.instanceMethod yX7_comes ∈ ng_G ∧ Cond.selects yX7_comes.cls yX7_comes yX7_comes ∈ ng_G := ⟨ng_inG (i := 406) (by decide +kernel) (by decide +kernel), ng_inG (i := 407) (by decide +kernel) (by decide +kernel)⟩
abbrev mi_X8_ofBuyer : ng_Y := (yX8_ofBuyer, cX8_ofBuyer, 3, some .int)
theorem my_X8_ofBuyer : ng_MY mi_X8_ofBuyer 2 := ⟨ng_inG (i := 413) (by decide +kernel) (by decide +kernel), li_X8, by decide +kernel, by decide⟩
theorem ms_X8_ofBuyer : Cond.instanceMethod yX8_ofBuyer ∈ ng_G ∧ Cond.selects yX8_ofBuyer.cls yX8_ofBuyer yX8_ofBuyer ∈ ng_G := ⟨ng_inG (i := 411) (by decide +kernel) (by decide +kernel), ng_inG (i := 412) (by decide +kernel) (by decide +kernel)⟩
abbrev mi_X3_isBuyer : ng_Y := (yX3_isBuyer, cX3_isBuyer, 2, some .boolean)
theorem my_X3_isBuyer : ng_MY mi_X3_isBuyer 1 := ⟨ng_inG (i := 417) (by decide +kernel) (by decide +kernel), li_X3, by decide +kernel, by decide⟩
theorem ms_X3_isBuyer : Cond.instanceMethod yX3_isBuyer ∈ ng_G ∧ Cond.selects yX3_isBuyer.cls yX3_isBuyer yX3_isBuyer ∈ ng_G := ⟨ng_inG (i := 415) (by decide +kernel) (by decide +kernel), ng_inG (i := 416) (by decide +kernel) (by decide +kernel)⟩
abbrev mi_X8_as : ng_Y := (yX8_as, cX8_as, 3, some .int)
theorem my_X8_as : ng_MY mi_X8_as 2 := ⟨ng_inG (i := 422) (by decide +kernel) (by decide +kernel), li_X8, by decide +kernel, by decide⟩
theorem ms_X8_as : Cond.instanceMethod yX8_as ∈ ng_G ∧ Cond.selects yX8_as.cls yX8_as yX8_as ∈ ng_G := ⟨ng_inG (i := 420) (by decide +kernel) (by decide +kernel), ng_inG (i := 421) (by decide +kernel) (by decide +kernel)⟩
abbrev mi_X8_isOf : ng_Y := (yX8_isOf, cX8_isOf, 4, some .boolean)
theorem my_X8_isOf : ng_MY mi_X8_isOf 2 := ⟨ng_inG (i := 425) (by decide +kernel) (by decide +kernel), li_X8, by decide +kernel, by decide⟩
theorem ms_X8_isOf : Cond.static yX8_isOf ∈ ng_G := ng_inG (i := 424) (by decide +kernel) (by decide +kernel)
abbrev mi_X8_has : ng_Y := (yX8_has, cX8_has, 4, some .int)
theorem my_X8_has : ng_MY mi_X8_has 2 := ⟨ng_inG (i := 432) (by decide +kernel) (by decide +kernel), li_X8, by decide +kernel, by decide⟩
theorem ms_X8_has : Cond.instanceMethod yX8_has ∈ ng_G ∧ Cond.selects yX8_has.cls yX8_has yX8_has ∈ ng_G := ⟨ng_inG (i := 430) (by decide +kernel) (by decide +kernel), ng_inG (i := 431) (by decide +kernel) (by decide +kernel)⟩
abbrev mi_X8_buyers : ng_Y := (yX8_buyers, cX8_buyers, 3, some .int)
theorem my_X8_buyers : ng_MY mi_X8_buyers 1 := ⟨ng_inG (i := 436) (by decide +kernel) (by decide +kernel), li_X8, by decide +kernel, by decide⟩
theorem ms_X8_buyers : Cond.instanceMethod yX8_buyers ∈ ng_G ∧ Cond.selects yX8_buyers.cls yX8_buyers yX8_buyers ∈ ng_G := ⟨ng_inG (i := 434) (by decide +kernel) (by decide +kernel), ng_inG (i := 435) (by decide +kernel) (by decide +kernel)⟩
abbrev mi_X8_sheetAt : ng_Y := (yX8_sheetAt, cX8_sheetAt, 2, some (.object "NinePots$Sheet"))
theorem my_X8_sheetAt : ng_MY mi_X8_sheetAt 1 := ⟨ng_inG (i := 440) (by decide +kernel) (by decide +kernel), li_X8, by decide +kernel, by decide⟩
theorem ms_X8_sheetAt : Cond.instanceMethod yX8_sheetAt ∈ ng_G ∧ Cond.selects yX8_sheetAt.cls yX8_sheetAt yX8_sheetAt ∈ ng_G := ⟨ng_inG (i := 439) (by decide +kernel) (by decide +kernel), ng_inG (i := 1) (by decide +kernel) (by decide +kernel)⟩
abbrev mi_X4_isMissing : ng_Y := (yX4_isMissing, cX4_isMissing, 1, some .boolean)
theorem my_X4_isMissing : ng_MY mi_X4_isMissing 0 := ⟨ng_inG (i := 444) (by decide +kernel) (by decide +kernel), li_X4, by decide +kernel, by decide⟩
theorem ms_X4_isMissing : Cond.instanceMethod yX4_isMissing ∈ ng_G ∧ Cond.selects yX4_isMissing.cls yX4_isMissing yX4_isMissing ∈ ng_G := ⟨ng_inG (i := 442) (by decide +kernel) (by decide +kernel), ng_inG (i := 443) (by decide +kernel) (by decide +kernel)⟩
abbrev mi_X8_bringBuyers : ng_Y := (yX8_bringBuyers, cX8_bringBuyers, 7, some .int)
theorem my_X8_bringBuyers : ng_MY mi_X8_bringBuyers 1 := ⟨ng_inG (i := 449) (by decide +kernel) (by decide +kernel), li_X8, by decide +kernel, by decide⟩
theorem ms_X8_bringBuyers : Cond.instanceMethod yX8_bringBuyers ∈ ng_G ∧ Cond.selects yX8_bringBuyers.cls yX8_bringBuyers yX8_bringBuyers ∈ ng_G := ⟨ng_inG (i := 448) (by decide +kernel) (by decide +kernel), ng_inG (i := 2) (by decide +kernel) (by decide +kernel)⟩
abbrev mi_X4_number : ng_Y := (yX4_number, cX4_number, 2, some .int)
theorem my_X4_number : ng_MY mi_X4_number 1 := ⟨ng_inG (i := 453) (by decide +kernel) (by decide +kernel), li_X4, by decide +kernel, by decide⟩
theorem ms_X4_number : Cond.instanceMethod yX4_number ∈ ng_G ∧ Cond.selects yX4_number.cls yX4_number yX4_number ∈ ng_G := ⟨ng_inG (i := 451) (by decide +kernel) (by decide +kernel), ng_inG (i := 452) (by decide +kernel) (by decide +kernel)⟩
abbrev mi_X8_at : ng_Y := (yX8_at, cX8_at, 6, some .int)
theorem my_X8_at : ng_MY mi_X8_at 4 := ⟨ng_inG (i := 458) (by decide +kernel) (by decide +kernel), li_X8, by decide +kernel, by decide⟩
theorem ms_X8_at : Cond.instanceMethod yX8_at ∈ ng_G ∧ Cond.selects yX8_at.cls yX8_at yX8_at ∈ ng_G := ⟨ng_inG (i := 456) (by decide +kernel) (by decide +kernel), ng_inG (i := 457) (by decide +kernel) (by decide +kernel)⟩
abbrev mi_X5_appraise : ng_Y := (yX5_appraise, cX5_appraise, 3, none)
theorem my_X5_appraise : ng_MY mi_X5_appraise 0 := ⟨ng_inG (i := 462) (by decide +kernel) (by decide +kernel), li_X5, by decide +kernel, by decide⟩
theorem ms_X5_appraise : Cond.instanceMethod yX5_appraise ∈ ng_G ∧ Cond.selects yX5_appraise.cls yX5_appraise yX5_appraise ∈ ng_G := ⟨ng_inG (i := 460) (by decide +kernel) (by decide +kernel), ng_inG (i := 461) (by decide +kernel) (by decide +kernel)⟩
abbrev mi_X3_plainWorth : ng_Y := (yX3_plainWorth, cX3_plainWorth, 6, some .int)
theorem my_X3_plainWorth : ng_MY mi_X3_plainWorth 4 := ⟨ng_inG (i := 466) (by decide +kernel) (by decide +kernel), li_X3, by decide +kernel, by decide⟩
theorem ms_X3_plainWorth : Cond.instanceMethod yX3_plainWorth ∈ ng_G ∧ Cond.selects yX3_plainWorth.cls yX3_plainWorth yX3_plainWorth ∈ ng_G := ⟨ng_inG (i := 464) (by decide +kernel) (by decide +kernel), ng_inG (i := 465) (by decide +kernel) (by decide +kernel)⟩
abbrev mi_X0_isMissing : ng_Y := (yX0_isMissing, cX0_isMissing, 1, some .boolean)
theorem my_X0_isMissing : ng_MY mi_X0_isMissing 0 := ⟨ng_inG (i := 470) (by decide +kernel) (by decide +kernel), li_X0, by decide +kernel, by decide⟩
theorem ms_X0_isMissing : Cond.instanceMethod yX0_isMissing ∈ ng_G ∧ Cond.selects yX0_isMissing.cls yX0_isMissing yX0_isMissing ∈ ng_G := ⟨ng_inG (i := 468) (by decide +kernel) (by decide +kernel), ng_inG (i := 469) (by decide +kernel) (by decide +kernel)⟩
abbrev mi_X0_gives : ng_Y := (yX0_gives, cX0_gives, 8, some .int)
theorem my_X0_gives : ng_MY mi_X0_gives 4 := ⟨ng_inG (i := 474) (by decide +kernel) (by decide +kernel), li_X0, by decide +kernel, by decide⟩
theorem ms_X0_gives : Cond.instanceMethod yX0_gives ∈ ng_G ∧ Cond.selects yX0_gives.cls yX0_gives yX0_gives ∈ ng_G := ⟨ng_inG (i := 472) (by decide +kernel) (by decide +kernel), ng_inG (i := 473) (by decide +kernel) (by decide +kernel)⟩
abbrev mi_X0_named : ng_Y := (yX0_named, cX0_named, 2, some .int)
theorem my_X0_named : ng_MY mi_X0_named 1 := ⟨ng_inG (i := 478) (by decide +kernel) (by decide +kernel), li_X0, by decide +kernel, by decide⟩
theorem ms_X0_named : Cond.instanceMethod yX0_named ∈ ng_G ∧ Cond.selects yX0_named.cls yX0_named yX0_named ∈ ng_G := ⟨ng_inG (i := 477) (by decide +kernel) (by decide +kernel), ng_inG (i := 3) (by decide +kernel) (by decide +kernel)⟩
abbrev mi_X0_joined : ng_Y := (yX0_joined, cX0_joined, 3, some .int)
theorem my_X0_joined : ng_MY mi_X0_joined 3 := ⟨ng_inG (i := 481) (by decide +kernel) (by decide +kernel), li_X0, by decide +kernel, by decide⟩
theorem ms_X0_joined : Cond.static yX0_joined ∈ ng_G := ng_inG (i := 480) (by decide +kernel) (by decide +kernel)
abbrev mi_X8_held : ng_Y := (yX8_held, cX8_held, 3, some .int)
theorem my_X8_held : ng_MY mi_X8_held 3 := ⟨ng_inG (i := 485) (by decide +kernel) (by decide +kernel), li_X8, by decide +kernel, by decide⟩
theorem ms_X8_held : Cond.static yX8_held ∈ ng_G := ng_inG (i := 484) (by decide +kernel) (by decide +kernel)
abbrev mi_J9_min_7cf53 : ng_Y := (yJ9_min_7cf53, cJ9_min_7cf53, 2, some .int)
theorem my_J9_min_7cf53 : ng_MY mi_J9_min_7cf53 2 := ⟨ng_inG (i := 488) (by decide +kernel) (by decide +kernel), li_J9, by decide +kernel, by decide⟩
theorem ms_J9_min_7cf53 : Cond.static yJ9_min_7cf53 ∈ ng_G := ng_inG (i := 487) (by decide +kernel) (by decide +kernel)
abbrev mi_J9_max_7cf53 : ng_Y := (yJ9_max_7cf53, cJ9_max_7cf53, 2, some .int)
theorem my_J9_max_7cf53 : ng_MY mi_J9_max_7cf53 2 := ⟨ng_inG (i := 491) (by decide +kernel) (by decide +kernel), li_J9, by decide +kernel, by decide⟩
theorem ms_J9_max_7cf53 : Cond.static yJ9_max_7cf53 ∈ ng_G := ng_inG (i := 490) (by decide +kernel) (by decide +kernel)
abbrev mi_X5_worth : ng_Y := (yX5_worth, cX5_worth, 5, some .int)
theorem my_X5_worth : ng_MY mi_X5_worth 2 := ⟨ng_inG (i := 495) (by decide +kernel) (by decide +kernel), li_X5, by decide +kernel, by decide⟩
theorem ms_X5_worth : Cond.instanceMethod yX5_worth ∈ ng_G ∧ Cond.selects yX5_worth.cls yX5_worth yX5_worth ∈ ng_G := ⟨ng_inG (i := 493) (by decide +kernel) (by decide +kernel), ng_inG (i := 494) (by decide +kernel) (by decide +kernel)⟩
abbrev mi_X5_due : ng_Y := (yX5_due, cX5_due, 4, some .int)
theorem my_X5_due : ng_MY mi_X5_due 2 := ⟨ng_inG (i := 499) (by decide +kernel) (by decide +kernel), li_X5, by decide +kernel, by decide⟩
theorem ms_X5_due : Cond.instanceMethod yX5_due ∈ ng_G ∧ Cond.selects yX5_due.cls yX5_due yX5_due ∈ ng_G := ⟨ng_inG (i := 497) (by decide +kernel) (by decide +kernel), ng_inG (i := 498) (by decide +kernel) (by decide +kernel)⟩
abbrev mi_X5_buys : ng_Y := (yX5_buys, cX5_buys, 4, some .int)
theorem my_X5_buys : ng_MY mi_X5_buys 3 := ⟨ng_inG (i := 503) (by decide +kernel) (by decide +kernel), li_X5, by decide +kernel, by decide⟩
theorem ms_X5_buys : Cond.instanceMethod yX5_buys ∈ ng_G ∧ Cond.selects yX5_buys.cls yX5_buys yX5_buys ∈ ng_G := ⟨ng_inG (i := 501) (by decide +kernel) (by decide +kernel), ng_inG (i := 502) (by decide +kernel) (by decide +kernel)⟩
abbrev mi_X5_takes : ng_Y := (yX5_takes, cX5_takes, 4, some .int)
theorem my_X5_takes : ng_MY mi_X5_takes 2 := ⟨ng_inG (i := 509) (by decide +kernel) (by decide +kernel), li_X5, by decide +kernel, by decide⟩
theorem ms_X5_takes : Cond.instanceMethod yX5_takes ∈ ng_G ∧ Cond.selects yX5_takes.cls yX5_takes yX5_takes ∈ ng_G := ⟨ng_inG (i := 508) (by decide +kernel) (by decide +kernel), ng_inG (i := 4) (by decide +kernel) (by decide +kernel)⟩
abbrev mi_X8_feed : ng_Y := (yX8_feed, cX8_feed, 5, some .int)
theorem my_X8_feed : ng_MY mi_X8_feed 2 := ⟨ng_inG (i := 515) (by decide +kernel) (by decide +kernel), li_X8, by decide +kernel, by decide⟩
theorem ms_X8_feed : Cond.instanceMethod yX8_feed ∈ ng_G ∧ Cond.selects yX8_feed.cls yX8_feed yX8_feed ∈ ng_G := ⟨ng_inG (i := 513) (by decide +kernel) (by decide +kernel), ng_inG (i := 514) (by decide +kernel) (by decide +kernel)⟩
abbrev mi_X8_text : ng_Y := (yX8_text, cX8_text, 3, some .int)
theorem my_X8_text : ng_MY mi_X8_text 1 := ⟨ng_inG (i := 519) (by decide +kernel) (by decide +kernel), li_X8, by decide +kernel, by decide⟩
theorem ms_X8_text : Cond.instanceMethod yX8_text ∈ ng_G ∧ Cond.selects yX8_text.cls yX8_text yX8_text ∈ ng_G := ⟨ng_inG (i := 517) (by decide +kernel) (by decide +kernel), ng_inG (i := 518) (by decide +kernel) (by decide +kernel)⟩
abbrev mi_X2_reads : ng_Y := (yX2_reads, cX2_reads, 5, some .int)
theorem my_X2_reads : ng_MY mi_X2_reads 3 := ⟨ng_inG (i := 523) (by decide +kernel) (by decide +kernel), li_X2, by decide +kernel, by decide⟩
theorem ms_X2_reads : Cond.instanceMethod yX2_reads ∈ ng_G ∧ Cond.selects yX2_reads.cls yX2_reads yX2_reads ∈ ng_G := ⟨ng_inG (i := 521) (by decide +kernel) (by decide +kernel), ng_inG (i := 522) (by decide +kernel) (by decide +kernel)⟩
abbrev mi_X2_readsRule : ng_Y := (yX2_readsRule, cX2_readsRule, 5, some .boolean)
theorem my_X2_readsRule : ng_MY mi_X2_readsRule 2 := ⟨ng_inG (i := 532) (by decide +kernel) (by decide +kernel), li_X2, by decide +kernel, by decide⟩
theorem ms_X2_readsRule : Cond.instanceMethod yX2_readsRule ∈ ng_G ∧ Cond.selects yX2_readsRule.cls yX2_readsRule yX2_readsRule ∈ ng_G := ⟨ng_inG (i := 531) (by decide +kernel) (by decide +kernel), ng_inG (i := 5) (by decide +kernel) (by decide +kernel)⟩
abbrev mi_X2_readsQ : ng_Y := (yX2_readsQ, cX2_readsQ, 4, some .boolean)
theorem my_X2_readsQ : ng_MY mi_X2_readsQ 1 := ⟨ng_inG (i := 536) (by decide +kernel) (by decide +kernel), li_X2, by decide +kernel, by decide⟩
theorem ms_X2_readsQ : Cond.instanceMethod yX2_readsQ ∈ ng_G ∧ Cond.selects yX2_readsQ.cls yX2_readsQ yX2_readsQ ∈ ng_G := ⟨ng_inG (i := 535) (by decide +kernel) (by decide +kernel), ng_inG (i := 6) (by decide +kernel) (by decide +kernel)⟩
abbrev mi_X2_ahead : ng_Y := (yX2_ahead, cX2_ahead, 1, some .int)
theorem my_X2_ahead : ng_MY mi_X2_ahead 0 := ⟨ng_inG (i := 540) (by decide +kernel) (by decide +kernel), li_X2, by decide +kernel, by decide⟩
theorem ms_X2_ahead : Cond.instanceMethod yX2_ahead ∈ ng_G ∧ Cond.selects yX2_ahead.cls yX2_ahead yX2_ahead ∈ ng_G := ⟨ng_inG (i := 539) (by decide +kernel) (by decide +kernel), ng_inG (i := 7) (by decide +kernel) (by decide +kernel)⟩
abbrev mi_X2_isDigit : ng_Y := (yX2_isDigit, cX2_isDigit, 1, some .boolean)
theorem my_X2_isDigit : ng_MY mi_X2_isDigit 1 := ⟨ng_inG (i := 543) (by decide +kernel) (by decide +kernel), li_X2, by decide +kernel, by decide⟩
theorem ms_X2_isDigit : Cond.static yX2_isDigit ∈ ng_G := ng_inG (i := 542) (by decide +kernel) (by decide +kernel)
abbrev mi_X2_readsNumber : ng_Y := (yX2_readsNumber, cX2_readsNumber, 3, none)
theorem my_X2_readsNumber : ng_MY mi_X2_readsNumber 0 := ⟨ng_inG (i := 548) (by decide +kernel) (by decide +kernel), li_X2, by decide +kernel, by decide⟩
theorem ms_X2_readsNumber : Cond.instanceMethod yX2_readsNumber ∈ ng_G ∧ Cond.selects yX2_readsNumber.cls yX2_readsNumber yX2_readsNumber ∈ ng_G := ⟨ng_inG (i := 547) (by decide +kernel) (by decide +kernel), ng_inG (i := 8) (by decide +kernel) (by decide +kernel)⟩
abbrev mi_X2_makes : ng_Y := (yX2_makes, cX2_makes, 2, none)
theorem my_X2_makes : ng_MY mi_X2_makes 1 := ⟨ng_inG (i := 552) (by decide +kernel) (by decide +kernel), li_X2, by decide +kernel, by decide⟩
theorem ms_X2_makes : Cond.instanceMethod yX2_makes ∈ ng_G ∧ Cond.selects yX2_makes.cls yX2_makes yX2_makes ∈ ng_G := ⟨ng_inG (i := 551) (by decide +kernel) (by decide +kernel), ng_inG (i := 9) (by decide +kernel) (by decide +kernel)⟩
abbrev mi_X2_nameOf : ng_Y := (yX2_nameOf, cX2_nameOf, 4, some .int)
theorem my_X2_nameOf : ng_MY mi_X2_nameOf 1 := ⟨ng_inG (i := 556) (by decide +kernel) (by decide +kernel), li_X2, by decide +kernel, by decide⟩
theorem ms_X2_nameOf : Cond.instanceMethod yX2_nameOf ∈ ng_G ∧ Cond.selects yX2_nameOf.cls yX2_nameOf yX2_nameOf ∈ ng_G := ⟨ng_inG (i := 555) (by decide +kernel) (by decide +kernel), ng_inG (i := 10) (by decide +kernel) (by decide +kernel)⟩
abbrev mi_X2_readsNot : ng_Y := (yX2_readsNot, cX2_readsNot, 2, some .boolean)
theorem my_X2_readsNot : ng_MY mi_X2_readsNot 1 := ⟨ng_inG (i := 562) (by decide +kernel) (by decide +kernel), li_X2, by decide +kernel, by decide⟩
theorem ms_X2_readsNot : Cond.instanceMethod yX2_readsNot ∈ ng_G ∧ Cond.selects yX2_readsNot.cls yX2_readsNot yX2_readsNot ∈ ng_G := ⟨ng_inG (i := 561) (by decide +kernel) (by decide +kernel), ng_inG (i := 11) (by decide +kernel) (by decide +kernel)⟩
abbrev mi_X2_readsInside : ng_Y := (yX2_readsInside, cX2_readsInside, 2, some .boolean)
theorem my_X2_readsInside : ng_MY mi_X2_readsInside 1 := ⟨ng_inG (i := 566) (by decide +kernel) (by decide +kernel), li_X2, by decide +kernel, by decide⟩
theorem ms_X2_readsInside : Cond.instanceMethod yX2_readsInside ∈ ng_G ∧ Cond.selects yX2_readsInside.cls yX2_readsInside yX2_readsInside ∈ ng_G := ⟨ng_inG (i := 565) (by decide +kernel) (by decide +kernel), ng_inG (i := 12) (by decide +kernel) (by decide +kernel)⟩
abbrev mi_X2_ruleOf : ng_Y := (yX2_ruleOf, cX2_ruleOf, 1, some .int)
theorem my_X2_ruleOf : ng_MY mi_X2_ruleOf 1 := ⟨ng_inG (i := 569) (by decide +kernel) (by decide +kernel), li_X2, by decide +kernel, by decide⟩
theorem ms_X2_ruleOf : Cond.static yX2_ruleOf ∈ ng_G := ng_inG (i := 568) (by decide +kernel) (by decide +kernel)
abbrev mi_X3_formula : ng_Y := (yX3_formula, cX3_formula, 2, some (.object "NinePots$Formula"))
theorem my_X3_formula : ng_MY mi_X3_formula 1 := ⟨ng_inG (i := 573) (by decide +kernel) (by decide +kernel), li_X3, by decide +kernel, by decide⟩
theorem ms_X3_formula : Cond.instanceMethod yX3_formula ∈ ng_G ∧ Cond.selects yX3_formula.cls yX3_formula yX3_formula ∈ ng_G := ⟨ng_inG (i := 571) (by decide +kernel) (by decide +kernel), ng_inG (i := 572) (by decide +kernel) (by decide +kernel)⟩
abbrev mi_X0_take : ng_Y := (yX0_take, cX0_take, 3, none)
theorem my_X0_take : ng_MY mi_X0_take 2 := ⟨ng_inG (i := 577) (by decide +kernel) (by decide +kernel), li_X0, by decide +kernel, by decide⟩
theorem ms_X0_take : Cond.instanceMethod yX0_take ∈ ng_G ∧ Cond.selects yX0_take.cls yX0_take yX0_take ∈ ng_G := ⟨ng_inG (i := 575) (by decide +kernel) (by decide +kernel), ng_inG (i := 576) (by decide +kernel) (by decide +kernel)⟩
abbrev mi_X8_law : ng_Y := (yX8_law, cX8_law, 6, some .int)
theorem my_X8_law : ng_MY mi_X8_law 5 := ⟨ng_inG (i := 584) (by decide +kernel) (by decide +kernel), li_X8, by decide +kernel, by decide⟩
theorem ms_X8_law : Cond.instanceMethod yX8_law ∈ ng_G ∧ Cond.selects yX8_law.cls yX8_law yX8_law ∈ ng_G := ⟨ng_inG (i := 582) (by decide +kernel) (by decide +kernel), ng_inG (i := 583) (by decide +kernel) (by decide +kernel)⟩
abbrev mi_X3_fame : ng_Y := (yX3_fame, cX3_fame, 6, some .int)
theorem my_X3_fame : ng_MY mi_X3_fame 4 := ⟨ng_inG (i := 589) (by decide +kernel) (by decide +kernel), li_X3, by decide +kernel, by decide⟩
theorem ms_X3_fame : Cond.instanceMethod yX3_fame ∈ ng_G ∧ Cond.selects yX3_fame.cls yX3_fame yX3_fame ∈ ng_G := ⟨ng_inG (i := 587) (by decide +kernel) (by decide +kernel), ng_inG (i := 588) (by decide +kernel) (by decide +kernel)⟩
abbrev mi_X8_year : ng_Y := (yX8_year, cX8_year, 3, some .int)
theorem my_X8_year : ng_MY mi_X8_year 2 := ⟨ng_inG (i := 593) (by decide +kernel) (by decide +kernel), li_X8, by decide +kernel, by decide⟩
theorem ms_X8_year : Cond.instanceMethod yX8_year ∈ ng_G ∧ Cond.selects yX8_year.cls yX8_year yX8_year ∈ ng_G := ⟨ng_inG (i := 591) (by decide +kernel) (by decide +kernel), ng_inG (i := 592) (by decide +kernel) (by decide +kernel)⟩
abbrev mi_X5_goes : ng_Y := (yX5_goes, cX5_goes, 4, none)
theorem my_X5_goes : ng_MY mi_X5_goes 3 := ⟨ng_inG (i := 598) (by decide +kernel) (by decide +kernel), li_X5, by decide +kernel, by decide⟩
theorem ms_X5_goes : Cond.instanceMethod yX5_goes ∈ ng_G ∧ Cond.selects yX5_goes.cls yX5_goes yX5_goes ∈ ng_G := ⟨ng_inG (i := 596) (by decide +kernel) (by decide +kernel), ng_inG (i := 597) (by decide +kernel) (by decide +kernel)⟩
abbrev mi_X5_sells : ng_Y := (yX5_sells, cX5_sells, 9, none)
theorem my_X5_sells : ng_MY mi_X5_sells 3 := ⟨ng_inG (i := 603) (by decide +kernel) (by decide +kernel), li_X5, by decide +kernel, by decide⟩
theorem ms_X5_sells : Cond.instanceMethod yX5_sells ∈ ng_G ∧ Cond.selects yX5_sells.cls yX5_sells yX5_sells ∈ ng_G := ⟨ng_inG (i := 601) (by decide +kernel) (by decide +kernel), ng_inG (i := 602) (by decide +kernel) (by decide +kernel)⟩
abbrev mi_X5_pots : ng_Y := (yX5_pots, cX5_pots, 1, some .int)
theorem my_X5_pots : ng_MY mi_X5_pots 0 := ⟨ng_inG (i := 607) (by decide +kernel) (by decide +kernel), li_X5, by decide +kernel, by decide⟩
theorem ms_X5_pots : Cond.instanceMethod yX5_pots ∈ ng_G ∧ Cond.selects yX5_pots.cls yX5_pots yX5_pots ∈ ng_G := ⟨ng_inG (i := 605) (by decide +kernel) (by decide +kernel), ng_inG (i := 606) (by decide +kernel) (by decide +kernel)⟩
abbrev mi_X5_settles : ng_Y := (yX5_settles, cX5_settles, 1, none)
theorem my_X5_settles : ng_MY mi_X5_settles 0 := ⟨ng_inG (i := 615) (by decide +kernel) (by decide +kernel), li_X5, by decide +kernel, by decide⟩
theorem ms_X5_settles : Cond.instanceMethod yX5_settles ∈ ng_G ∧ Cond.selects yX5_settles.cls yX5_settles yX5_settles ∈ ng_G := ⟨ng_inG (i := 613) (by decide +kernel) (by decide +kernel), ng_inG (i := 614) (by decide +kernel) (by decide +kernel)⟩
abbrev mi_X8_give : ng_Y := (yX8_give, cX8_give, 2, some .int)
theorem my_X8_give : ng_MY mi_X8_give 1 := ⟨ng_inG (i := 620) (by decide +kernel) (by decide +kernel), li_X8, by decide +kernel, by decide⟩
theorem ms_X8_give : Cond.instanceMethod yX8_give ∈ ng_G ∧ Cond.selects yX8_give.cls yX8_give yX8_give ∈ ng_G := ⟨ng_inG (i := 618) (by decide +kernel) (by decide +kernel), ng_inG (i := 619) (by decide +kernel) (by decide +kernel)⟩
abbrev mi_X5_gives : ng_Y := (yX5_gives, cX5_gives, 2, none)
theorem my_X5_gives : ng_MY mi_X5_gives 1 := ⟨ng_inG (i := 624) (by decide +kernel) (by decide +kernel), li_X5, by decide +kernel, by decide⟩
theorem ms_X5_gives : Cond.instanceMethod yX5_gives ∈ ng_G ∧ Cond.selects yX5_gives.cls yX5_gives yX5_gives ∈ ng_G := ⟨ng_inG (i := 622) (by decide +kernel) (by decide +kernel), ng_inG (i := 623) (by decide +kernel) (by decide +kernel)⟩
abbrev mi_X8_life : ng_Y := (yX8_life, cX8_life, 5, some .int)
theorem my_X8_life : ng_MY mi_X8_life 2 := ⟨ng_inG (i := 629) (by decide +kernel) (by decide +kernel), li_X8, by decide +kernel, by decide⟩
theorem ms_X8_life : Cond.instanceMethod yX8_life ∈ ng_G ∧ Cond.selects yX8_life.cls yX8_life yX8_life ∈ ng_G := ⟨ng_inG (i := 627) (by decide +kernel) (by decide +kernel), ng_inG (i := 628) (by decide +kernel) (by decide +kernel)⟩
abbrev mi_X7_drawn : ng_Y := (yX7_drawn, cX7_drawn, 3, some .int)
theorem my_X7_drawn : ng_MY mi_X7_drawn 0 := ⟨ng_inG (i := 633) (by decide +kernel) (by decide +kernel), li_X7, by decide +kernel, by decide⟩
theorem ms_X7_drawn : Cond.instanceMethod yX7_drawn ∈ ng_G ∧ Cond.selects yX7_drawn.cls yX7_drawn yX7_drawn ∈ ng_G := ⟨ng_inG (i := 631) (by decide +kernel) (by decide +kernel), ng_inG (i := 632) (by decide +kernel) (by decide +kernel)⟩
abbrev mi_X8_then : ng_Y := (yX8_then, cX8_then, 5, some .int)
theorem my_X8_then : ng_MY mi_X8_then 3 := ⟨ng_inG (i := 638) (by decide +kernel) (by decide +kernel), li_X8, by decide +kernel, by decide⟩
theorem ms_X8_then : Cond.instanceMethod yX8_then ∈ ng_G ∧ Cond.selects yX8_then.cls yX8_then yX8_then ∈ ng_G := ⟨ng_inG (i := 636) (by decide +kernel) (by decide +kernel), ng_inG (i := 637) (by decide +kernel) (by decide +kernel)⟩
abbrev mi_X1_from : ng_Y := (yX1_from, cX1_from, 2, some (.object "NinePots$Stand"))
theorem my_X1_from : ng_MY mi_X1_from 1 := ⟨ng_inG (i := 642) (by decide +kernel) (by decide +kernel), li_X1, by decide +kernel, by decide⟩
theorem ms_X1_from : Cond.instanceMethod yX1_from ∈ ng_G ∧ Cond.selects yX1_from.cls yX1_from yX1_from ∈ ng_G := ⟨ng_inG (i := 640) (by decide +kernel) (by decide +kernel), ng_inG (i := 641) (by decide +kernel) (by decide +kernel)⟩
abbrev mi_X5_take : ng_Y := (yX5_take, cX5_take, 2, none)
theorem my_X5_take : ng_MY mi_X5_take 1 := ⟨ng_inG (i := 646) (by decide +kernel) (by decide +kernel), li_X5, by decide +kernel, by decide⟩
theorem ms_X5_take : Cond.instanceMethod yX5_take ∈ ng_G ∧ Cond.selects yX5_take.cls yX5_take yX5_take ∈ ng_G := ⟨ng_inG (i := 644) (by decide +kernel) (by decide +kernel), ng_inG (i := 645) (by decide +kernel) (by decide +kernel)⟩
abbrev mi_X5_goesYears : ng_Y := (yX5_goesYears, cX5_goesYears, 4, none)
theorem my_X5_goesYears : ng_MY mi_X5_goesYears 2 := ⟨ng_inG (i := 651) (by decide +kernel) (by decide +kernel), li_X5, by decide +kernel, by decide⟩
theorem ms_X5_goesYears : Cond.instanceMethod yX5_goesYears ∈ ng_G ∧ Cond.selects yX5_goesYears.cls yX5_goesYears yX5_goesYears ∈ ng_G := ⟨ng_inG (i := 649) (by decide +kernel) (by decide +kernel), ng_inG (i := 650) (by decide +kernel) (by decide +kernel)⟩
abbrev mi_X5_figure : ng_Y := (yX5_figure, cX5_figure, 2, some .int)
theorem my_X5_figure : ng_MY mi_X5_figure 1 := ⟨ng_inG (i := 656) (by decide +kernel) (by decide +kernel), li_X5, by decide +kernel, by decide⟩
theorem ms_X5_figure : Cond.instanceMethod yX5_figure ∈ ng_G ∧ Cond.selects yX5_figure.cls yX5_figure yX5_figure ∈ ng_G := ⟨ng_inG (i := 654) (by decide +kernel) (by decide +kernel), ng_inG (i := 655) (by decide +kernel) (by decide +kernel)⟩
abbrev mi_X5_ends : ng_Y := (yX5_ends, cX5_ends, 1, some .int)
theorem my_X5_ends : ng_MY mi_X5_ends 0 := ⟨ng_inG (i := 660) (by decide +kernel) (by decide +kernel), li_X5, by decide +kernel, by decide⟩
theorem ms_X5_ends : Cond.instanceMethod yX5_ends ∈ ng_G ∧ Cond.selects yX5_ends.cls yX5_ends yX5_ends ∈ ng_G := ⟨ng_inG (i := 658) (by decide +kernel) (by decide +kernel), ng_inG (i := 659) (by decide +kernel) (by decide +kernel)⟩
abbrev mi_X5_hasInAll : ng_Y := (yX5_hasInAll, cX5_hasInAll, 3, some .int)
theorem my_X5_hasInAll : ng_MY mi_X5_hasInAll 0 := ⟨ng_inG (i := 664) (by decide +kernel) (by decide +kernel), li_X5, by decide +kernel, by decide⟩
theorem ms_X5_hasInAll : Cond.instanceMethod yX5_hasInAll ∈ ng_G ∧ Cond.selects yX5_hasInAll.cls yX5_hasInAll yX5_hasInAll ∈ ng_G := ⟨ng_inG (i := 662) (by decide +kernel) (by decide +kernel), ng_inG (i := 663) (by decide +kernel) (by decide +kernel)⟩
abbrev mi_X8_by : ng_Y := (yX8_by, cX8_by, 6, some .int)
theorem my_X8_by : ng_MY mi_X8_by 2 := ⟨ng_inG (i := 668) (by decide +kernel) (by decide +kernel), li_X8, by decide +kernel, by decide⟩
theorem ms_X8_by : Cond.instanceMethod yX8_by ∈ ng_G ∧ Cond.selects yX8_by.cls yX8_by yX8_by ∈ ng_G := ⟨ng_inG (i := 666) (by decide +kernel) (by decide +kernel), ng_inG (i := 667) (by decide +kernel) (by decide +kernel)⟩
abbrev mi_X8_best : ng_Y := (yX8_best, cX8_best, 3, some .int)
theorem my_X8_best : ng_MY mi_X8_best 2 := ⟨ng_inG (i := 672) (by decide +kernel) (by decide +kernel), li_X8, by decide +kernel, by decide⟩
theorem ms_X8_best : Cond.instanceMethod yX8_best ∈ ng_G ∧ Cond.selects yX8_best.cls yX8_best yX8_best ∈ ng_G := ⟨ng_inG (i := 670) (by decide +kernel) (by decide +kernel), ng_inG (i := 671) (by decide +kernel) (by decide +kernel)⟩
abbrev mi_X8_ofBestRow : ng_Y := (yX8_ofBestRow, cX8_ofBestRow, 5, some .int)
theorem my_X8_ofBestRow : ng_MY mi_X8_ofBestRow 3 := ⟨ng_inG (i := 676) (by decide +kernel) (by decide +kernel), li_X8, by decide +kernel, by decide⟩
theorem ms_X8_ofBestRow : Cond.instanceMethod yX8_ofBestRow ∈ ng_G ∧ Cond.selects yX8_ofBestRow.cls yX8_ofBestRow yX8_ofBestRow ∈ ng_G := ⟨ng_inG (i := 675) (by decide +kernel) (by decide +kernel), ng_inG (i := 13) (by decide +kernel) (by decide +kernel)⟩
abbrev mi_X1_bestEnds : ng_Y := (yX1_bestEnds, cX1_bestEnds, 6, some .int)
theorem my_X1_bestEnds : ng_MY mi_X1_bestEnds 4 := ⟨ng_inG (i := 680) (by decide +kernel) (by decide +kernel), li_X1, by decide +kernel, by decide⟩
theorem ms_X1_bestEnds : Cond.instanceMethod yX1_bestEnds ∈ ng_G ∧ Cond.selects yX1_bestEnds.cls yX1_bestEnds yX1_bestEnds ∈ ng_G := ⟨ng_inG (i := 678) (by decide +kernel) (by decide +kernel), ng_inG (i := 679) (by decide +kernel) (by decide +kernel)⟩
abbrev mi_X1_goOn : ng_Y := (yX1_goOn, cX1_goOn, 7, none)
theorem my_X1_goOn : ng_MY mi_X1_goOn 3 := ⟨ng_inG (i := 684) (by decide +kernel) (by decide +kernel), li_X1, by decide +kernel, by decide⟩
theorem ms_X1_goOn : Cond.instanceMethod yX1_goOn ∈ ng_G ∧ Cond.selects yX1_goOn.cls yX1_goOn yX1_goOn ∈ ng_G := ⟨ng_inG (i := 683) (by decide +kernel) (by decide +kernel), ng_inG (i := 14) (by decide +kernel) (by decide +kernel)⟩
abbrev mi_X1_keepIfMore : ng_Y := (yX1_keepIfMore, cX1_keepIfMore, 2, none)
theorem my_X1_keepIfMore : ng_MY mi_X1_keepIfMore 1 := ⟨ng_inG (i := 691) (by decide +kernel) (by decide +kernel), li_X1, by decide +kernel, by decide⟩
theorem ms_X1_keepIfMore : Cond.instanceMethod yX1_keepIfMore ∈ ng_G ∧ Cond.selects yX1_keepIfMore.cls yX1_keepIfMore yX1_keepIfMore ∈ ng_G := ⟨ng_inG (i := 690) (by decide +kernel) (by decide +kernel), ng_inG (i := 15) (by decide +kernel) (by decide +kernel)⟩
abbrev mi_X1_bestStep : ng_Y := (yX1_bestStep, cX1_bestStep, 2, some .int)
theorem my_X1_bestStep : ng_MY mi_X1_bestStep 1 := ⟨ng_inG (i := 697) (by decide +kernel) (by decide +kernel), li_X1, by decide +kernel, by decide⟩
theorem ms_X1_bestStep : Cond.instanceMethod yX1_bestStep ∈ ng_G ∧ Cond.selects yX1_bestStep.cls yX1_bestStep yX1_bestStep ∈ ng_G := ⟨ng_inG (i := 695) (by decide +kernel) (by decide +kernel), ng_inG (i := 696) (by decide +kernel) (by decide +kernel)⟩
abbrev mi_X8_never : ng_Y := (yX8_never, cX8_never, 3, some .int)
theorem my_X8_never : ng_MY mi_X8_never 2 := ⟨ng_inG (i := 702) (by decide +kernel) (by decide +kernel), li_X8, by decide +kernel, by decide⟩
theorem ms_X8_never : Cond.instanceMethod yX8_never ∈ ng_G ∧ Cond.selects yX8_never.cls yX8_never yX8_never ∈ ng_G := ⟨ng_inG (i := 700) (by decide +kernel) (by decide +kernel), ng_inG (i := 701) (by decide +kernel) (by decide +kernel)⟩
abbrev mi_X8_costs : ng_Y := (yX8_costs, cX8_costs, 3, some .int)
theorem my_X8_costs : ng_MY mi_X8_costs 1 := ⟨ng_inG (i := 706) (by decide +kernel) (by decide +kernel), li_X8, by decide +kernel, by decide⟩
theorem ms_X8_costs : Cond.instanceMethod yX8_costs ∈ ng_G ∧ Cond.selects yX8_costs.cls yX8_costs yX8_costs ∈ ng_G := ⟨ng_inG (i := 704) (by decide +kernel) (by decide +kernel), ng_inG (i := 705) (by decide +kernel) (by decide +kernel)⟩
abbrev mi_X8_raise : ng_Y := (yX8_raise, cX8_raise, 3, some .int)
theorem my_X8_raise : ng_MY mi_X8_raise 1 := ⟨ng_inG (i := 710) (by decide +kernel) (by decide +kernel), li_X8, by decide +kernel, by decide⟩
theorem ms_X8_raise : Cond.instanceMethod yX8_raise ∈ ng_G ∧ Cond.selects yX8_raise.cls yX8_raise yX8_raise ∈ ng_G := ⟨ng_inG (i := 708) (by decide +kernel) (by decide +kernel), ng_inG (i := 709) (by decide +kernel) (by decide +kernel)⟩
abbrev mi_X1_leastKeptToRaise : ng_Y := (yX1_leastKeptToRaise, cX1_leastKeptToRaise, 4, some .int)
theorem my_X1_leastKeptToRaise : ng_MY mi_X1_leastKeptToRaise 2 := ⟨ng_inG (i := 714) (by decide +kernel) (by decide +kernel), li_X1, by decide +kernel, by decide⟩
theorem ms_X1_leastKeptToRaise : Cond.instanceMethod yX1_leastKeptToRaise ∈ ng_G ∧ Cond.selects yX1_leastKeptToRaise.cls yX1_leastKeptToRaise yX1_leastKeptToRaise ∈ ng_G := ⟨ng_inG (i := 712) (by decide +kernel) (by decide +kernel), ng_inG (i := 713) (by decide +kernel) (by decide +kernel)⟩
abbrev mi_X8_back : ng_Y := (yX8_back, cX8_back, 3, some .int)
theorem my_X8_back : ng_MY mi_X8_back 2 := ⟨ng_inG (i := 719) (by decide +kernel) (by decide +kernel), li_X8, by decide +kernel, by decide⟩
theorem ms_X8_back : Cond.instanceMethod yX8_back ∈ ng_G ∧ Cond.selects yX8_back.cls yX8_back yX8_back ∈ ng_G := ⟨ng_inG (i := 717) (by decide +kernel) (by decide +kernel), ng_inG (i := 718) (by decide +kernel) (by decide +kernel)⟩
abbrev mi_X1_bestBack : ng_Y := (yX1_bestBack, cX1_bestBack, 8, some .int)
theorem my_X1_bestBack : ng_MY mi_X1_bestBack 3 := ⟨ng_inG (i := 723) (by decide +kernel) (by decide +kernel), li_X1, by decide +kernel, by decide⟩
theorem ms_X1_bestBack : Cond.instanceMethod yX1_bestBack ∈ ng_G ∧ Cond.selects yX1_bestBack.cls yX1_bestBack yX1_bestBack ∈ ng_G := ⟨ng_inG (i := 721) (by decide +kernel) (by decide +kernel), ng_inG (i := 722) (by decide +kernel) (by decide +kernel)⟩
abbrev mi_X8_whom : ng_Y := (yX8_whom, cX8_whom, 3, some .int)
theorem my_X8_whom : ng_MY mi_X8_whom 2 := ⟨ng_inG (i := 729) (by decide +kernel) (by decide +kernel), li_X8, by decide +kernel, by decide⟩
theorem ms_X8_whom : Cond.instanceMethod yX8_whom ∈ ng_G ∧ Cond.selects yX8_whom.cls yX8_whom yX8_whom ∈ ng_G := ⟨ng_inG (i := 727) (by decide +kernel) (by decide +kernel), ng_inG (i := 728) (by decide +kernel) (by decide +kernel)⟩
abbrev mi_X1_bestGiven : ng_Y := (yX1_bestGiven, cX1_bestGiven, 8, some .int)
theorem my_X1_bestGiven : ng_MY mi_X1_bestGiven 3 := ⟨ng_inG (i := 733) (by decide +kernel) (by decide +kernel), li_X1, by decide +kernel, by decide⟩
theorem ms_X1_bestGiven : Cond.instanceMethod yX1_bestGiven ∈ ng_G ∧ Cond.selects yX1_bestGiven.cls yX1_bestGiven yX1_bestGiven ∈ ng_G := ⟨ng_inG (i := 731) (by decide +kernel) (by decide +kernel), ng_inG (i := 732) (by decide +kernel) (by decide +kernel)⟩
abbrev mi_X8_more : ng_Y := (yX8_more, cX8_more, 4, some .int)
theorem my_X8_more : ng_MY mi_X8_more 3 := ⟨ng_inG (i := 738) (by decide +kernel) (by decide +kernel), li_X8, by decide +kernel, by decide⟩
theorem ms_X8_more : Cond.instanceMethod yX8_more ∈ ng_G ∧ Cond.selects yX8_more.cls yX8_more yX8_more ∈ ng_G := ⟨ng_inG (i := 736) (by decide +kernel) (by decide +kernel), ng_inG (i := 737) (by decide +kernel) (by decide +kernel)⟩
abbrev mi_X1_endsWithMore : ng_Y := (yX1_endsWithMore, cX1_endsWithMore, 5, some .int)
theorem my_X1_endsWithMore : ng_MY mi_X1_endsWithMore 4 := ⟨ng_inG (i := 742) (by decide +kernel) (by decide +kernel), li_X1, by decide +kernel, by decide⟩
theorem ms_X1_endsWithMore : Cond.instanceMethod yX1_endsWithMore ∈ ng_G ∧ Cond.selects yX1_endsWithMore.cls yX1_endsWithMore yX1_endsWithMore ∈ ng_G := ⟨ng_inG (i := 740) (by decide +kernel) (by decide +kernel), ng_inG (i := 741) (by decide +kernel) (by decide +kernel)⟩
abbrev mi_X8_rests : ng_Y := (yX8_rests, cX8_rests, 3, some .int)
theorem my_X8_rests : ng_MY mi_X8_rests 1 := ⟨ng_inG (i := 747) (by decide +kernel) (by decide +kernel), li_X8, by decide +kernel, by decide⟩
theorem ms_X8_rests : Cond.instanceMethod yX8_rests ∈ ng_G ∧ Cond.selects yX8_rests.cls yX8_rests yX8_rests ∈ ng_G := ⟨ng_inG (i := 745) (by decide +kernel) (by decide +kernel), ng_inG (i := 746) (by decide +kernel) (by decide +kernel)⟩
abbrev mi_X1_yearsToRest : ng_Y := (yX1_yearsToRest, cX1_yearsToRest, 6, some .int)
theorem my_X1_yearsToRest : ng_MY mi_X1_yearsToRest 2 := ⟨ng_inG (i := 751) (by decide +kernel) (by decide +kernel), li_X1, by decide +kernel, by decide⟩
theorem ms_X1_yearsToRest : Cond.instanceMethod yX1_yearsToRest ∈ ng_G ∧ Cond.selects yX1_yearsToRest.cls yX1_yearsToRest yX1_yearsToRest ∈ ng_G := ⟨ng_inG (i := 749) (by decide +kernel) (by decide +kernel), ng_inG (i := 750) (by decide +kernel) (by decide +kernel)⟩
abbrev mi_X8_clear : ng_Y := (yX8_clear, cX8_clear, 2, some .int)
theorem my_X8_clear : ng_MY mi_X8_clear 0 := ⟨ng_inG (i := 755) (by decide +kernel) (by decide +kernel), li_X8, by decide +kernel, by decide⟩
theorem ms_X8_clear : Cond.instanceMethod yX8_clear ∈ ng_G ∧ Cond.selects yX8_clear.cls yX8_clear yX8_clear ∈ ng_G := ⟨ng_inG (i := 753) (by decide +kernel) (by decide +kernel), ng_inG (i := 754) (by decide +kernel) (by decide +kernel)⟩
abbrev mi_X1_leastClearing : ng_Y := (yX1_leastClearing, cX1_leastClearing, 3, some .int)
theorem my_X1_leastClearing : ng_MY mi_X1_leastClearing 1 := ⟨ng_inG (i := 759) (by decide +kernel) (by decide +kernel), li_X1, by decide +kernel, by decide⟩
theorem ms_X1_leastClearing : Cond.instanceMethod yX1_leastClearing ∈ ng_G ∧ Cond.selects yX1_leastClearing.cls yX1_leastClearing yX1_leastClearing ∈ ng_G := ⟨ng_inG (i := 757) (by decide +kernel) (by decide +kernel), ng_inG (i := 758) (by decide +kernel) (by decide +kernel)⟩
abbrev mi_X8_seed : ng_Y := (yX8_seed, cX8_seed, 3, some .int)
theorem my_X8_seed : ng_MY mi_X8_seed 1 := ⟨ng_inG (i := 764) (by decide +kernel) (by decide +kernel), li_X8, by decide +kernel, by decide⟩
theorem ms_X8_seed : Cond.instanceMethod yX8_seed ∈ ng_G ∧ Cond.selects yX8_seed.cls yX8_seed yX8_seed ∈ ng_G := ⟨ng_inG (i := 762) (by decide +kernel) (by decide +kernel), ng_inG (i := 763) (by decide +kernel) (by decide +kernel)⟩
abbrev mi_X8_voice : ng_Y := (yX8_voice, cX8_voice, 4, some .int)
theorem my_X8_voice : ng_MY mi_X8_voice 3 := ⟨ng_inG (i := 768) (by decide +kernel) (by decide +kernel), li_X8, by decide +kernel, by decide⟩
theorem ms_X8_voice : Cond.instanceMethod yX8_voice ∈ ng_G ∧ Cond.selects yX8_voice.cls yX8_voice yX8_voice ∈ ng_G := ⟨ng_inG (i := 766) (by decide +kernel) (by decide +kernel), ng_inG (i := 767) (by decide +kernel) (by decide +kernel)⟩
abbrev mi_X6_speaks : ng_Y := (yX6_speaks, cX6_speaks, 5, some .int)
theorem my_X6_speaks : ng_MY mi_X6_speaks 4 := ⟨ng_inG (i := 772) (by decide +kernel) (by decide +kernel), li_X6, by decide +kernel, by decide⟩
theorem ms_X6_speaks : Cond.instanceMethod yX6_speaks ∈ ng_G ∧ Cond.selects yX6_speaks.cls yX6_speaks yX6_speaks ∈ ng_G := ⟨ng_inG (i := 770) (by decide +kernel) (by decide +kernel), ng_inG (i := 771) (by decide +kernel) (by decide +kernel)⟩
abbrev mi_X6_own : ng_Y := (yX6_own, cX6_own, 4, some .int)
theorem my_X6_own : ng_MY mi_X6_own 3 := ⟨ng_inG (i := 776) (by decide +kernel) (by decide +kernel), li_X6, by decide +kernel, by decide⟩
theorem ms_X6_own : Cond.instanceMethod yX6_own ∈ ng_G ∧ Cond.selects yX6_own.cls yX6_own yX6_own ∈ ng_G := ⟨ng_inG (i := 775) (by decide +kernel) (by decide +kernel), ng_inG (i := 16) (by decide +kernel) (by decide +kernel)⟩
abbrev mi_X6_bodyFrom : ng_Y := (yX6_bodyFrom, cX6_bodyFrom, 5, some .int)
theorem my_X6_bodyFrom : ng_MY mi_X6_bodyFrom 2 := ⟨ng_inG (i := 779) (by decide +kernel) (by decide +kernel), li_X6, by decide +kernel, by decide⟩
theorem ms_X6_bodyFrom : Cond.static yX6_bodyFrom ∈ ng_G := ng_inG (i := 778) (by decide +kernel) (by decide +kernel)
abbrev mi_X6_body : ng_Y := (yX6_body, cX6_body, 4, some .int)
theorem my_X6_body : ng_MY mi_X6_body 3 := ⟨ng_inG (i := 787) (by decide +kernel) (by decide +kernel), li_X6, by decide +kernel, by decide⟩
theorem ms_X6_body : Cond.instanceMethod yX6_body ∈ ng_G ∧ Cond.selects yX6_body.cls yX6_body yX6_body ∈ ng_G := ⟨ng_inG (i := 786) (by decide +kernel) (by decide +kernel), ng_inG (i := 17) (by decide +kernel) (by decide +kernel)⟩
abbrev mi_X6_begins : ng_Y := (yX6_begins, cX6_begins, 2, none)
theorem my_X6_begins : ng_MY mi_X6_begins 1 := ⟨ng_inG (i := 791) (by decide +kernel) (by decide +kernel), li_X6, by decide +kernel, by decide⟩
theorem ms_X6_begins : Cond.instanceMethod yX6_begins ∈ ng_G ∧ Cond.selects yX6_begins.cls yX6_begins yX6_begins ∈ ng_G := ⟨ng_inG (i := 790) (by decide +kernel) (by decide +kernel), ng_inG (i := 18) (by decide +kernel) (by decide +kernel)⟩
abbrev mi_X6_above : ng_Y := (yX6_above, cX6_above, 5, some .int)
theorem my_X6_above : ng_MY mi_X6_above 4 := ⟨ng_inG (i := 795) (by decide +kernel) (by decide +kernel), li_X6, by decide +kernel, by decide⟩
theorem ms_X6_above : Cond.instanceMethod yX6_above ∈ ng_G ∧ Cond.selects yX6_above.cls yX6_above yX6_above ∈ ng_G := ⟨ng_inG (i := 794) (by decide +kernel) (by decide +kernel), ng_inG (i := 19) (by decide +kernel) (by decide +kernel)⟩
abbrev mi_X8_trace : ng_Y := (yX8_trace, cX8_trace, 2, some .int)
theorem my_X8_trace : ng_MY mi_X8_trace 1 := ⟨ng_inG (i := 799) (by decide +kernel) (by decide +kernel), li_X8, by decide +kernel, by decide⟩
theorem ms_X8_trace : Cond.instanceMethod yX8_trace ∈ ng_G ∧ Cond.selects yX8_trace.cls yX8_trace yX8_trace ∈ ng_G := ⟨ng_inG (i := 797) (by decide +kernel) (by decide +kernel), ng_inG (i := 798) (by decide +kernel) (by decide +kernel)⟩
abbrev mi_X8_sheet : ng_Y := (yX8_sheet, cX8_sheet, 5, some .int)
theorem my_X8_sheet : ng_MY mi_X8_sheet 3 := ⟨ng_inG (i := 803) (by decide +kernel) (by decide +kernel), li_X8, by decide +kernel, by decide⟩
theorem ms_X8_sheet : Cond.instanceMethod yX8_sheet ∈ ng_G ∧ Cond.selects yX8_sheet.cls yX8_sheet yX8_sheet ∈ ng_G := ⟨ng_inG (i := 801) (by decide +kernel) (by decide +kernel), ng_inG (i := 802) (by decide +kernel) (by decide +kernel)⟩
abbrev mi_X4_becomes : ng_Y := (yX4_becomes, cX4_becomes, 4, none)
theorem my_X4_becomes : ng_MY mi_X4_becomes 2 := ⟨ng_inG (i := 807) (by decide +kernel) (by decide +kernel), li_X4, by decide +kernel, by decide⟩
theorem ms_X4_becomes : Cond.instanceMethod yX4_becomes ∈ ng_G ∧ Cond.selects yX4_becomes.cls yX4_becomes yX4_becomes ∈ ng_G := ⟨ng_inG (i := 805) (by decide +kernel) (by decide +kernel), ng_inG (i := 806) (by decide +kernel) (by decide +kernel)⟩
abbrev mi_X8_put : ng_Y := (yX8_put, cX8_put, 5, some .int)
theorem my_X8_put : ng_MY mi_X8_put 3 := ⟨ng_inG (i := 812) (by decide +kernel) (by decide +kernel), li_X8, by decide +kernel, by decide⟩
theorem ms_X8_put : Cond.instanceMethod yX8_put ∈ ng_G ∧ Cond.selects yX8_put.cls yX8_put yX8_put ∈ ng_G := ⟨ng_inG (i := 810) (by decide +kernel) (by decide +kernel), ng_inG (i := 811) (by decide +kernel) (by decide +kernel)⟩
abbrev mi_X4_change : ng_Y := (yX4_change, cX4_change, 3, none)
theorem my_X4_change : ng_MY mi_X4_change 2 := ⟨ng_inG (i := 816) (by decide +kernel) (by decide +kernel), li_X4, by decide +kernel, by decide⟩
theorem ms_X4_change : Cond.instanceMethod yX4_change ∈ ng_G ∧ Cond.selects yX4_change.cls yX4_change yX4_change ∈ ng_G := ⟨ng_inG (i := 814) (by decide +kernel) (by decide +kernel), ng_inG (i := 815) (by decide +kernel) (by decide +kernel)⟩
abbrev mi_X4_lowest : ng_Y := (yX4_lowest, cX4_lowest, 2, some .int)
theorem my_X4_lowest : ng_MY mi_X4_lowest 1 := ⟨ng_inG (i := 820) (by decide +kernel) (by decide +kernel), li_X4, by decide +kernel, by decide⟩
theorem ms_X4_lowest : Cond.instanceMethod yX4_lowest ∈ ng_G ∧ Cond.selects yX4_lowest.cls yX4_lowest yX4_lowest ∈ ng_G := ⟨ng_inG (i := 819) (by decide +kernel) (by decide +kernel), ng_inG (i := 20) (by decide +kernel) (by decide +kernel)⟩
abbrev mi_X8_move : ng_Y := (yX8_move, cX8_move, 8, some .int)
theorem my_X8_move : ng_MY mi_X8_move 5 := ⟨ng_inG (i := 824) (by decide +kernel) (by decide +kernel), li_X8, by decide +kernel, by decide⟩
theorem ms_X8_move : Cond.instanceMethod yX8_move ∈ ng_G ∧ Cond.selects yX8_move.cls yX8_move yX8_move ∈ ng_G := ⟨ng_inG (i := 822) (by decide +kernel) (by decide +kernel), ng_inG (i := 823) (by decide +kernel) (by decide +kernel)⟩
abbrev mi_X4_holds : ng_Y := (yX4_holds, cX4_holds, 3, some .boolean)
theorem my_X4_holds : ng_MY mi_X4_holds 2 := ⟨ng_inG (i := 828) (by decide +kernel) (by decide +kernel), li_X4, by decide +kernel, by decide⟩
theorem ms_X4_holds : Cond.instanceMethod yX4_holds ∈ ng_G ∧ Cond.selects yX4_holds.cls yX4_holds yX4_holds ∈ ng_G := ⟨ng_inG (i := 826) (by decide +kernel) (by decide +kernel), ng_inG (i := 827) (by decide +kernel) (by decide +kernel)⟩
abbrev mi_X8_image : ng_Y := (yX8_image, cX8_image, 1, some .int)
theorem my_X8_image : ng_MY mi_X8_image 0 := ⟨ng_inG (i := 833) (by decide +kernel) (by decide +kernel), li_X8, by decide +kernel, by decide⟩
theorem ms_X8_image : Cond.instanceMethod yX8_image ∈ ng_G ∧ Cond.selects yX8_image.cls yX8_image yX8_image ∈ ng_G := ⟨ng_inG (i := 831) (by decide +kernel) (by decide +kernel), ng_inG (i := 832) (by decide +kernel) (by decide +kernel)⟩
abbrev mi_X7_take : ng_Y := (yX7_take, cX7_take, 2, none)
theorem my_X7_take : ng_MY mi_X7_take 1 := ⟨ng_inG (i := 837) (by decide +kernel) (by decide +kernel), li_X7, by decide +kernel, by decide⟩
theorem ms_X7_take : Cond.instanceMethod yX7_take ∈ ng_G ∧ Cond.selects yX7_take.cls yX7_take yX7_take ∈ ng_G := ⟨ng_inG (i := 835) (by decide +kernel) (by decide +kernel), ng_inG (i := 836) (by decide +kernel) (by decide +kernel)⟩
abbrev mi_X3_take : ng_Y := (yX3_take, cX3_take, 2, none)
theorem my_X3_take : ng_MY mi_X3_take 1 := ⟨ng_inG (i := 841) (by decide +kernel) (by decide +kernel), li_X3, by decide +kernel, by decide⟩
theorem ms_X3_take : Cond.instanceMethod yX3_take ∈ ng_G ∧ Cond.selects yX3_take.cls yX3_take yX3_take ∈ ng_G := ⟨ng_inG (i := 839) (by decide +kernel) (by decide +kernel), ng_inG (i := 840) (by decide +kernel) (by decide +kernel)⟩
abbrev mi_X8_restore : ng_Y := (yX8_restore, cX8_restore, 1, some .int)
theorem my_X8_restore : ng_MY mi_X8_restore 0 := ⟨ng_inG (i := 849) (by decide +kernel) (by decide +kernel), li_X8, by decide +kernel, by decide⟩
theorem ms_X8_restore : Cond.instanceMethod yX8_restore ∈ ng_G ∧ Cond.selects yX8_restore.cls yX8_restore yX8_restore ∈ ng_G := ⟨ng_inG (i := 847) (by decide +kernel) (by decide +kernel), ng_inG (i := 848) (by decide +kernel) (by decide +kernel)⟩
abbrev mi_X8_tell : ng_Y := (yX8_tell, cX8_tell, 2, some .int)
theorem my_X8_tell : ng_MY mi_X8_tell 1 := ⟨ng_inG (i := 853) (by decide +kernel) (by decide +kernel), li_X8, by decide +kernel, by decide⟩
theorem ms_X8_tell : Cond.instanceMethod yX8_tell ∈ ng_G ∧ Cond.selects yX8_tell.cls yX8_tell yX8_tell ∈ ng_G := ⟨ng_inG (i := 851) (by decide +kernel) (by decide +kernel), ng_inG (i := 852) (by decide +kernel) (by decide +kernel)⟩
abbrev mi_X8_check : ng_Y := (yX8_check, cX8_check, 3, some .int)
theorem my_X8_check : ng_MY mi_X8_check 1 := ⟨ng_inG (i := 857) (by decide +kernel) (by decide +kernel), li_X8, by decide +kernel, by decide⟩
theorem ms_X8_check : Cond.instanceMethod yX8_check ∈ ng_G ∧ Cond.selects yX8_check.cls yX8_check yX8_check ∈ ng_G := ⟨ng_inG (i := 855) (by decide +kernel) (by decide +kernel), ng_inG (i := 856) (by decide +kernel) (by decide +kernel)⟩
abbrev mi_X8_firstUnlike : ng_Y := (yX8_firstUnlike, cX8_firstUnlike, 8, some .int)
theorem my_X8_firstUnlike : ng_MY mi_X8_firstUnlike 2 := ⟨ng_inG (i := 861) (by decide +kernel) (by decide +kernel), li_X8, by decide +kernel, by decide⟩
theorem ms_X8_firstUnlike : Cond.instanceMethod yX8_firstUnlike ∈ ng_G ∧ Cond.selects yX8_firstUnlike.cls yX8_firstUnlike yX8_firstUnlike ∈ ng_G := ⟨ng_inG (i := 860) (by decide +kernel) (by decide +kernel), ng_inG (i := 21) (by decide +kernel) (by decide +kernel)⟩
abbrev mi_X8_count : ng_Y := (yX8_count, cX8_count, 2, some .int)
theorem my_X8_count : ng_MY mi_X8_count 1 := ⟨ng_inG (i := 866) (by decide +kernel) (by decide +kernel), li_X8, by decide +kernel, by decide⟩
theorem ms_X8_count : Cond.instanceMethod yX8_count ∈ ng_G ∧ Cond.selects yX8_count.cls yX8_count yX8_count ∈ ng_G := ⟨ng_inG (i := 864) (by decide +kernel) (by decide +kernel), ng_inG (i := 865) (by decide +kernel) (by decide +kernel)⟩
abbrev mi_X8_told : ng_Y := (yX8_told, cX8_told, 2, some .int)
theorem my_X8_told : ng_MY mi_X8_told 1 := ⟨ng_inG (i := 870) (by decide +kernel) (by decide +kernel), li_X8, by decide +kernel, by decide⟩
theorem ms_X8_told : Cond.instanceMethod yX8_told ∈ ng_G ∧ Cond.selects yX8_told.cls yX8_told yX8_told ∈ ng_G := ⟨ng_inG (i := 868) (by decide +kernel) (by decide +kernel), ng_inG (i := 869) (by decide +kernel) (by decide +kernel)⟩
abbrev mi_X9_init : ng_Y := (yX9_init, cX9_init, 2, none)
abbrev mi_X9_coins : ng_Y := (yX9_coins, cX9_coins, 3, some .int)
theorem my_X9_coins : ng_MY mi_X9_coins 2 := ⟨ng_inG (i := 962) (by decide +kernel) (by decide +kernel), li_X9, by decide +kernel, by decide⟩
theorem ms_X9_coins : Cond.instanceMethod yX9_coins ∈ ng_G ∧ Cond.selects yX9_coins.cls yX9_coins yX9_coins ∈ ng_G := ⟨ng_inG (i := 960) (by decide +kernel) (by decide +kernel), ng_inG (i := 961) (by decide +kernel) (by decide +kernel)⟩
abbrev mi_X9_isStep : ng_Y := (yX9_isStep, cX9_isStep, 1, some .boolean)
theorem my_X9_isStep : ng_MY mi_X9_isStep 1 := ⟨ng_inG (i := 965) (by decide +kernel) (by decide +kernel), li_X9, by decide +kernel, by decide⟩
theorem ms_X9_isStep : Cond.static yX9_isStep ∈ ng_G := ng_inG (i := 964) (by decide +kernel) (by decide +kernel)
abbrev mi_X9_within : ng_Y := (yX9_within, cX9_within, 3, some .boolean)
theorem my_X9_within : ng_MY mi_X9_within 3 := ⟨ng_inG (i := 968) (by decide +kernel) (by decide +kernel), li_X9, by decide +kernel, by decide⟩
theorem ms_X9_within : Cond.static yX9_within ∈ ng_G := ng_inG (i := 967) (by decide +kernel) (by decide +kernel)
abbrev mi_X9_become : ng_Y := (yX9_become, cX9_become, 4, some .int)
theorem my_X9_become : ng_MY mi_X9_become 2 := ⟨ng_inG (i := 972) (by decide +kernel) (by decide +kernel), li_X9, by decide +kernel, by decide⟩
theorem ms_X9_become : Cond.instanceMethod yX9_become ∈ ng_G ∧ Cond.selects yX9_become.cls yX9_become yX9_become ∈ ng_G := ⟨ng_inG (i := 971) (by decide +kernel) (by decide +kernel), ng_inG (i := 22) (by decide +kernel) (by decide +kernel)⟩
abbrev mi_X9_finding : ng_Y := (yX9_finding, cX9_finding, 2, some .int)
theorem my_X9_finding : ng_MY mi_X9_finding 1 := ⟨ng_inG (i := 977) (by decide +kernel) (by decide +kernel), li_X9, by decide +kernel, by decide⟩
theorem ms_X9_finding : Cond.instanceMethod yX9_finding ∈ ng_G ∧ Cond.selects yX9_finding.cls yX9_finding yX9_finding ∈ ng_G := ⟨ng_inG (i := 976) (by decide +kernel) (by decide +kernel), ng_inG (i := 23) (by decide +kernel) (by decide +kernel)⟩
abbrev mi_X9_set : ng_Y := (yX9_set, cX9_set, 4, some .int)
theorem my_X9_set : ng_MY mi_X9_set 2 := ⟨ng_inG (i := 982) (by decide +kernel) (by decide +kernel), li_X9, by decide +kernel, by decide⟩
theorem ms_X9_set : Cond.instanceMethod yX9_set ∈ ng_G ∧ Cond.selects yX9_set.cls yX9_set yX9_set ∈ ng_G := ⟨ng_inG (i := 980) (by decide +kernel) (by decide +kernel), ng_inG (i := 981) (by decide +kernel) (by decide +kernel)⟩
abbrev mi_X9_buyer : ng_Y := (yX9_buyer, cX9_buyer, 4, some .int)
theorem my_X9_buyer : ng_MY mi_X9_buyer 3 := ⟨ng_inG (i := 987) (by decide +kernel) (by decide +kernel), li_X9, by decide +kernel, by decide⟩
theorem ms_X9_buyer : Cond.instanceMethod yX9_buyer ∈ ng_G ∧ Cond.selects yX9_buyer.cls yX9_buyer yX9_buyer ∈ ng_G := ⟨ng_inG (i := 985) (by decide +kernel) (by decide +kernel), ng_inG (i := 986) (by decide +kernel) (by decide +kernel)⟩
abbrev mi_X9_isAsTold : ng_Y := (yX9_isAsTold, cX9_isAsTold, 3, some .boolean)
theorem my_X9_isAsTold : ng_MY mi_X9_isAsTold 3 := ⟨ng_inG (i := 990) (by decide +kernel) (by decide +kernel), li_X9, by decide +kernel, by decide⟩
theorem ms_X9_isAsTold : Cond.static yX9_isAsTold ∈ ng_G := ng_inG (i := 989) (by decide +kernel) (by decide +kernel)
abbrev mi_X9_comes : ng_Y := (yX9_comes, cX9_comes, 6, some .int)
theorem my_X9_comes : ng_MY mi_X9_comes 3 := ⟨ng_inG (i := 995) (by decide +kernel) (by decide +kernel), li_X9, by decide +kernel, by decide⟩
theorem ms_X9_comes : Cond.instanceMethod yX9_comes ∈ ng_G ∧ Cond.selects yX9_comes.cls yX9_comes yX9_comes ∈ ng_G := ⟨ng_inG (i := 994) (by decide +kernel) (by decide +kernel), ng_inG (i := 24) (by decide +kernel) (by decide +kernel)⟩
abbrev mi_X9_ofBuyer : ng_Y := (yX9_ofBuyer, cX9_ofBuyer, 3, some .int)
theorem my_X9_ofBuyer : ng_MY mi_X9_ofBuyer 2 := ⟨ng_inG (i := 999) (by decide +kernel) (by decide +kernel), li_X9, by decide +kernel, by decide⟩
theorem ms_X9_ofBuyer : Cond.instanceMethod yX9_ofBuyer ∈ ng_G ∧ Cond.selects yX9_ofBuyer.cls yX9_ofBuyer yX9_ofBuyer ∈ ng_G := ⟨ng_inG (i := 997) (by decide +kernel) (by decide +kernel), ng_inG (i := 998) (by decide +kernel) (by decide +kernel)⟩
abbrev mi_X9_is : ng_Y := (yX9_is, cX9_is, 2, some .boolean)
theorem my_X9_is : ng_MY mi_X9_is 1 := ⟨ng_inG (i := 1003) (by decide +kernel) (by decide +kernel), li_X9, by decide +kernel, by decide⟩
theorem ms_X9_is : Cond.instanceMethod yX9_is ∈ ng_G ∧ Cond.selects yX9_is.cls yX9_is yX9_is ∈ ng_G := ⟨ng_inG (i := 1002) (by decide +kernel) (by decide +kernel), ng_inG (i := 25) (by decide +kernel) (by decide +kernel)⟩
abbrev mi_X9_of : ng_Y := (yX9_of, cX9_of, 3, some .int)
theorem my_X9_of : ng_MY mi_X9_of 2 := ⟨ng_inG (i := 1007) (by decide +kernel) (by decide +kernel), li_X9, by decide +kernel, by decide⟩
theorem ms_X9_of : Cond.instanceMethod yX9_of ∈ ng_G ∧ Cond.selects yX9_of.cls yX9_of yX9_of ∈ ng_G := ⟨ng_inG (i := 1006) (by decide +kernel) (by decide +kernel), ng_inG (i := 26) (by decide +kernel) (by decide +kernel)⟩
abbrev mi_X9_as : ng_Y := (yX9_as, cX9_as, 4, some .int)
theorem my_X9_as : ng_MY mi_X9_as 2 := ⟨ng_inG (i := 1011) (by decide +kernel) (by decide +kernel), li_X9, by decide +kernel, by decide⟩
theorem ms_X9_as : Cond.instanceMethod yX9_as ∈ ng_G ∧ Cond.selects yX9_as.cls yX9_as yX9_as ∈ ng_G := ⟨ng_inG (i := 1009) (by decide +kernel) (by decide +kernel), ng_inG (i := 1010) (by decide +kernel) (by decide +kernel)⟩
abbrev mi_X9_above : ng_Y := (yX9_above, cX9_above, 1, some .int)
theorem my_X9_above : ng_MY mi_X9_above 1 := ⟨ng_inG (i := 1014) (by decide +kernel) (by decide +kernel), li_X9, by decide +kernel, by decide⟩
theorem ms_X9_above : Cond.static yX9_above ∈ ng_G := ng_inG (i := 1013) (by decide +kernel) (by decide +kernel)
abbrev mi_X9_has : ng_Y := (yX9_has, cX9_has, 3, some .int)
theorem my_X9_has : ng_MY mi_X9_has 2 := ⟨ng_inG (i := 1019) (by decide +kernel) (by decide +kernel), li_X9, by decide +kernel, by decide⟩
theorem ms_X9_has : Cond.instanceMethod yX9_has ∈ ng_G ∧ Cond.selects yX9_has.cls yX9_has yX9_has ∈ ng_G := ⟨ng_inG (i := 1017) (by decide +kernel) (by decide +kernel), ng_inG (i := 1018) (by decide +kernel) (by decide +kernel)⟩
abbrev mi_X9_buyers : ng_Y := (yX9_buyers, cX9_buyers, 5, some .int)
theorem my_X9_buyers : ng_MY mi_X9_buyers 1 := ⟨ng_inG (i := 1023) (by decide +kernel) (by decide +kernel), li_X9, by decide +kernel, by decide⟩
theorem ms_X9_buyers : Cond.instanceMethod yX9_buyers ∈ ng_G ∧ Cond.selects yX9_buyers.cls yX9_buyers yX9_buyers ∈ ng_G := ⟨ng_inG (i := 1021) (by decide +kernel) (by decide +kernel), ng_inG (i := 1022) (by decide +kernel) (by decide +kernel)⟩
abbrev mi_X9_isSheet : ng_Y := (yX9_isSheet, cX9_isSheet, 1, some .boolean)
theorem my_X9_isSheet : ng_MY mi_X9_isSheet 1 := ⟨ng_inG (i := 1026) (by decide +kernel) (by decide +kernel), li_X9, by decide +kernel, by decide⟩
theorem ms_X9_isSheet : Cond.static yX9_isSheet ∈ ng_G := ng_inG (i := 1025) (by decide +kernel) (by decide +kernel)
abbrev mi_X9_at : ng_Y := (yX9_at, cX9_at, 5, some .int)
theorem my_X9_at : ng_MY mi_X9_at 4 := ⟨ng_inG (i := 1031) (by decide +kernel) (by decide +kernel), li_X9, by decide +kernel, by decide⟩
theorem ms_X9_at : Cond.instanceMethod yX9_at ∈ ng_G ∧ Cond.selects yX9_at.cls yX9_at yX9_at ∈ ng_G := ⟨ng_inG (i := 1029) (by decide +kernel) (by decide +kernel), ng_inG (i := 1030) (by decide +kernel) (by decide +kernel)⟩
abbrev mi_X9_worthOf : ng_Y := (yX9_worthOf, cX9_worthOf, 6, some .int)
theorem my_X9_worthOf : ng_MY mi_X9_worthOf 2 := ⟨ng_inG (i := 1035) (by decide +kernel) (by decide +kernel), li_X9, by decide +kernel, by decide⟩
theorem ms_X9_worthOf : Cond.instanceMethod yX9_worthOf ∈ ng_G ∧ Cond.selects yX9_worthOf.cls yX9_worthOf yX9_worthOf ∈ ng_G := ⟨ng_inG (i := 1034) (by decide +kernel) (by decide +kernel), ng_inG (i := 27) (by decide +kernel) (by decide +kernel)⟩
abbrev mi_X9_plainWorth : ng_Y := (yX9_plainWorth, cX9_plainWorth, 2, some .int)
theorem my_X9_plainWorth : ng_MY mi_X9_plainWorth 1 := ⟨ng_inG (i := 1039) (by decide +kernel) (by decide +kernel), li_X9, by decide +kernel, by decide⟩
theorem ms_X9_plainWorth : Cond.instanceMethod yX9_plainWorth ∈ ng_G ∧ Cond.selects yX9_plainWorth.cls yX9_plainWorth yX9_plainWorth ∈ ng_G := ⟨ng_inG (i := 1038) (by decide +kernel) (by decide +kernel), ng_inG (i := 28) (by decide +kernel) (by decide +kernel)⟩
abbrev mi_X9_given : ng_Y := (yX9_given, cX9_given, 9, some .int)
theorem my_X9_given : ng_MY mi_X9_given 5 := ⟨ng_inG (i := 1043) (by decide +kernel) (by decide +kernel), li_X9, by decide +kernel, by decide⟩
theorem ms_X9_given : Cond.instanceMethod yX9_given ∈ ng_G ∧ Cond.selects yX9_given.cls yX9_given yX9_given ∈ ng_G := ⟨ng_inG (i := 1042) (by decide +kernel) (by decide +kernel), ng_inG (i := 29) (by decide +kernel) (by decide +kernel)⟩
abbrev mi_X9_worked : ng_Y := (yX9_worked, cX9_worked, 5, some .int)
theorem my_X9_worked : ng_MY mi_X9_worked 1 := ⟨ng_inG (i := 1047) (by decide +kernel) (by decide +kernel), li_X9, by decide +kernel, by decide⟩
theorem ms_X9_worked : Cond.instanceMethod yX9_worked ∈ ng_G ∧ Cond.selects yX9_worked.cls yX9_worked yX9_worked ∈ ng_G := ⟨ng_inG (i := 1046) (by decide +kernel) (by decide +kernel), ng_inG (i := 30) (by decide +kernel) (by decide +kernel)⟩
abbrev mi_X9_done : ng_Y := (yX9_done, cX9_done, 3, some .int)
theorem my_X9_done : ng_MY mi_X9_done 3 := ⟨ng_inG (i := 1050) (by decide +kernel) (by decide +kernel), li_X9, by decide +kernel, by decide⟩
theorem ms_X9_done : Cond.static yX9_done ∈ ng_G := ng_inG (i := 1049) (by decide +kernel) (by decide +kernel)
abbrev mi_X9_held : ng_Y := (yX9_held, cX9_held, 3, some .int)
theorem my_X9_held : ng_MY mi_X9_held 3 := ⟨ng_inG (i := 1054) (by decide +kernel) (by decide +kernel), li_X9, by decide +kernel, by decide⟩
theorem ms_X9_held : Cond.static yX9_held ∈ ng_G := ng_inG (i := 1053) (by decide +kernel) (by decide +kernel)
abbrev mi_X9_dueOf : ng_Y := (yX9_dueOf, cX9_dueOf, 5, some .int)
theorem my_X9_dueOf : ng_MY mi_X9_dueOf 2 := ⟨ng_inG (i := 1060) (by decide +kernel) (by decide +kernel), li_X9, by decide +kernel, by decide⟩
theorem ms_X9_dueOf : Cond.instanceMethod yX9_dueOf ∈ ng_G ∧ Cond.selects yX9_dueOf.cls yX9_dueOf yX9_dueOf ∈ ng_G := ⟨ng_inG (i := 1059) (by decide +kernel) (by decide +kernel), ng_inG (i := 31) (by decide +kernel) (by decide +kernel)⟩
abbrev mi_X9_buysOf : ng_Y := (yX9_buysOf, cX9_buysOf, 5, some .int)
theorem my_X9_buysOf : ng_MY mi_X9_buysOf 3 := ⟨ng_inG (i := 1064) (by decide +kernel) (by decide +kernel), li_X9, by decide +kernel, by decide⟩
theorem ms_X9_buysOf : Cond.instanceMethod yX9_buysOf ∈ ng_G ∧ Cond.selects yX9_buysOf.cls yX9_buysOf yX9_buysOf ∈ ng_G := ⟨ng_inG (i := 1063) (by decide +kernel) (by decide +kernel), ng_inG (i := 32) (by decide +kernel) (by decide +kernel)⟩
abbrev mi_X9_isKeeper : ng_Y := (yX9_isKeeper, cX9_isKeeper, 2, some .boolean)
theorem my_X9_isKeeper : ng_MY mi_X9_isKeeper 1 := ⟨ng_inG (i := 1068) (by decide +kernel) (by decide +kernel), li_X9, by decide +kernel, by decide⟩
theorem ms_X9_isKeeper : Cond.instanceMethod yX9_isKeeper ∈ ng_G ∧ Cond.selects yX9_isKeeper.cls yX9_isKeeper yX9_isKeeper ∈ ng_G := ⟨ng_inG (i := 1067) (by decide +kernel) (by decide +kernel), ng_inG (i := 33) (by decide +kernel) (by decide +kernel)⟩
abbrev mi_X9_feed : ng_Y := (yX9_feed, cX9_feed, 5, some .int)
theorem my_X9_feed : ng_MY mi_X9_feed 2 := ⟨ng_inG (i := 1072) (by decide +kernel) (by decide +kernel), li_X9, by decide +kernel, by decide⟩
theorem ms_X9_feed : Cond.instanceMethod yX9_feed ∈ ng_G ∧ Cond.selects yX9_feed.cls yX9_feed yX9_feed ∈ ng_G := ⟨ng_inG (i := 1070) (by decide +kernel) (by decide +kernel), ng_inG (i := 1071) (by decide +kernel) (by decide +kernel)⟩
abbrev mi_X9_text : ng_Y := (yX9_text, cX9_text, 3, some .int)
theorem my_X9_text : ng_MY mi_X9_text 1 := ⟨ng_inG (i := 1077) (by decide +kernel) (by decide +kernel), li_X9, by decide +kernel, by decide⟩
theorem ms_X9_text : Cond.instanceMethod yX9_text ∈ ng_G ∧ Cond.selects yX9_text.cls yX9_text yX9_text ∈ ng_G := ⟨ng_inG (i := 1075) (by decide +kernel) (by decide +kernel), ng_inG (i := 1076) (by decide +kernel) (by decide +kernel)⟩
abbrev mi_X9_either : ng_Y := (yX9_either, cX9_either, 1, none)
theorem my_X9_either : ng_MY mi_X9_either 0 := ⟨ng_inG (i := 1081) (by decide +kernel) (by decide +kernel), li_X9, by decide +kernel, by decide⟩
theorem ms_X9_either : Cond.instanceMethod yX9_either ∈ ng_G ∧ Cond.selects yX9_either.cls yX9_either yX9_either ∈ ng_G := ⟨ng_inG (i := 1080) (by decide +kernel) (by decide +kernel), ng_inG (i := 34) (by decide +kernel) (by decide +kernel)⟩
abbrev mi_X9_both : ng_Y := (yX9_both, cX9_both, 1, none)
theorem my_X9_both : ng_MY mi_X9_both 0 := ⟨ng_inG (i := 1085) (by decide +kernel) (by decide +kernel), li_X9, by decide +kernel, by decide⟩
theorem ms_X9_both : Cond.instanceMethod yX9_both ∈ ng_G ∧ Cond.selects yX9_both.cls yX9_both yX9_both ∈ ng_G := ⟨ng_inG (i := 1084) (by decide +kernel) (by decide +kernel), ng_inG (i := 35) (by decide +kernel) (by decide +kernel)⟩
abbrev mi_X9_compared : ng_Y := (yX9_compared, cX9_compared, 2, none)
theorem my_X9_compared : ng_MY mi_X9_compared 0 := ⟨ng_inG (i := 1089) (by decide +kernel) (by decide +kernel), li_X9, by decide +kernel, by decide⟩
theorem ms_X9_compared : Cond.instanceMethod yX9_compared ∈ ng_G ∧ Cond.selects yX9_compared.cls yX9_compared yX9_compared ∈ ng_G := ⟨ng_inG (i := 1088) (by decide +kernel) (by decide +kernel), ng_inG (i := 36) (by decide +kernel) (by decide +kernel)⟩
abbrev mi_X9_sum : ng_Y := (yX9_sum, cX9_sum, 2, none)
theorem my_X9_sum : ng_MY mi_X9_sum 0 := ⟨ng_inG (i := 1093) (by decide +kernel) (by decide +kernel), li_X9, by decide +kernel, by decide⟩
theorem ms_X9_sum : Cond.instanceMethod yX9_sum ∈ ng_G ∧ Cond.selects yX9_sum.cls yX9_sum yX9_sum ∈ ng_G := ⟨ng_inG (i := 1092) (by decide +kernel) (by decide +kernel), ng_inG (i := 37) (by decide +kernel) (by decide +kernel)⟩
abbrev mi_X9_product : ng_Y := (yX9_product, cX9_product, 2, none)
theorem my_X9_product : ng_MY mi_X9_product 0 := ⟨ng_inG (i := 1097) (by decide +kernel) (by decide +kernel), li_X9, by decide +kernel, by decide⟩
theorem ms_X9_product : Cond.instanceMethod yX9_product ∈ ng_G ∧ Cond.selects yX9_product.cls yX9_product yX9_product ∈ ng_G := ⟨ng_inG (i := 1096) (by decide +kernel) (by decide +kernel), ng_inG (i := 38) (by decide +kernel) (by decide +kernel)⟩
abbrev mi_X9_one : ng_Y := (yX9_one, cX9_one, 4, none)
theorem my_X9_one : ng_MY mi_X9_one 0 := ⟨ng_inG (i := 1101) (by decide +kernel) (by decide +kernel), li_X9, by decide +kernel, by decide⟩
theorem ms_X9_one : Cond.instanceMethod yX9_one ∈ ng_G ∧ Cond.selects yX9_one.cls yX9_one yX9_one ∈ ng_G := ⟨ng_inG (i := 1100) (by decide +kernel) (by decide +kernel), ng_inG (i := 39) (by decide +kernel) (by decide +kernel)⟩
abbrev mi_X9_here : ng_Y := (yX9_here, cX9_here, 1, some .int)
theorem my_X9_here : ng_MY mi_X9_here 0 := ⟨ng_inG (i := 1105) (by decide +kernel) (by decide +kernel), li_X9, by decide +kernel, by decide⟩
theorem ms_X9_here : Cond.instanceMethod yX9_here ∈ ng_G ∧ Cond.selects yX9_here.cls yX9_here yX9_here ∈ ng_G := ⟨ng_inG (i := 1104) (by decide +kernel) (by decide +kernel), ng_inG (i := 40) (by decide +kernel) (by decide +kernel)⟩
abbrev mi_X9_codes : ng_Y := (yX9_codes, cX9_codes, 2, none)
theorem my_X9_codes : ng_MY mi_X9_codes 1 := ⟨ng_inG (i := 1109) (by decide +kernel) (by decide +kernel), li_X9, by decide +kernel, by decide⟩
theorem ms_X9_codes : Cond.instanceMethod yX9_codes ∈ ng_G ∧ Cond.selects yX9_codes.cls yX9_codes yX9_codes ∈ ng_G := ⟨ng_inG (i := 1108) (by decide +kernel) (by decide +kernel), ng_inG (i := 41) (by decide +kernel) (by decide +kernel)⟩
abbrev mi_X9_takes : ng_Y := (yX9_takes, cX9_takes, 3, some .boolean)
theorem my_X9_takes : ng_MY mi_X9_takes 1 := ⟨ng_inG (i := 1113) (by decide +kernel) (by decide +kernel), li_X9, by decide +kernel, by decide⟩
theorem ms_X9_takes : Cond.instanceMethod yX9_takes ∈ ng_G ∧ Cond.selects yX9_takes.cls yX9_takes yX9_takes ∈ ng_G := ⟨ng_inG (i := 1112) (by decide +kernel) (by decide +kernel), ng_inG (i := 42) (by decide +kernel) (by decide +kernel)⟩
abbrev mi_X9_nameOf : ng_Y := (yX9_nameOf, cX9_nameOf, 4, some .int)
theorem my_X9_nameOf : ng_MY mi_X9_nameOf 1 := ⟨ng_inG (i := 1117) (by decide +kernel) (by decide +kernel), li_X9, by decide +kernel, by decide⟩
theorem ms_X9_nameOf : Cond.instanceMethod yX9_nameOf ∈ ng_G ∧ Cond.selects yX9_nameOf.cls yX9_nameOf yX9_nameOf ∈ ng_G := ⟨ng_inG (i := 1116) (by decide +kernel) (by decide +kernel), ng_inG (i := 43) (by decide +kernel) (by decide +kernel)⟩
abbrev mi_J0_length_8abf5 : ng_Y := (yJ0_length_8abf5, cJ0_length_8abf5, 1, some .int)
theorem my_J0_length_8abf5 : ng_MY mi_J0_length_8abf5 0 := ⟨ng_inG (i := 1121) (by decide +kernel) (by decide +kernel), li_J0, by decide +kernel, by decide⟩
theorem ms_J0_length_8abf5 : Cond.instanceMethod yJ0_length_8abf5 ∈ ng_G ∧ Cond.selects yJ0_length_8abf5.cls yJ0_length_8abf5 yJ0_length_8abf5 ∈ ng_G := ⟨ng_inG (i := 1119) (by decide +kernel) (by decide +kernel), ng_inG (i := 1120) (by decide +kernel) (by decide +kernel)⟩
abbrev mi_J0_coder_7d493 : ng_Y := (yJ0_coder_7d493, cJ0_coder_7d493, 1, some .byte)
theorem my_J0_coder_7d493 : ng_MY mi_J0_coder_7d493 0 := ⟨ng_inG (i := 1125) (by decide +kernel) (by decide +kernel), li_J0, by decide +kernel, by decide⟩
theorem ms_J0_coder_7d493 : Cond.instanceMethod yJ0_coder_7d493 ∈ ng_G ∧ Cond.selects yJ0_coder_7d493.cls yJ0_coder_7d493 yJ0_coder_7d493 ∈ ng_G := ⟨ng_inG (i := 1123) (by decide +kernel) (by decide +kernel), ng_inG (i := 1124) (by decide +kernel) (by decide +kernel)⟩
abbrev mi_J0_charAt_5068e : ng_Y := (yJ0_charAt_5068e, cJ0_charAt_5068e, 2, some .char)
theorem my_J0_charAt_5068e : ng_MY mi_J0_charAt_5068e 1 := ⟨ng_inG (i := 1131) (by decide +kernel) (by decide +kernel), li_J0, by decide +kernel, by decide⟩
theorem ms_J0_charAt_5068e : Cond.instanceMethod yJ0_charAt_5068e ∈ ng_G ∧ Cond.selects yJ0_charAt_5068e.cls yJ0_charAt_5068e yJ0_charAt_5068e ∈ ng_G := ⟨ng_inG (i := 1129) (by decide +kernel) (by decide +kernel), ng_inG (i := 1130) (by decide +kernel) (by decide +kernel)⟩
abbrev mi_J0_isLatin1_aae02 : ng_Y := (yJ0_isLatin1_aae02, cJ0_isLatin1_aae02, 1, some .boolean)
theorem my_J0_isLatin1_aae02 : ng_MY mi_J0_isLatin1_aae02 0 := ⟨ng_inG (i := 1135) (by decide +kernel) (by decide +kernel), li_J0, by decide +kernel, by decide⟩
theorem ms_J0_isLatin1_aae02 : Cond.instanceMethod yJ0_isLatin1_aae02 ∈ ng_G ∧ Cond.selects yJ0_isLatin1_aae02.cls yJ0_isLatin1_aae02 yJ0_isLatin1_aae02 ∈ ng_G := ⟨ng_inG (i := 1133) (by decide +kernel) (by decide +kernel), ng_inG (i := 1134) (by decide +kernel) (by decide +kernel)⟩
abbrev mi_J1_charAt_3b067 : ng_Y := (yJ1_charAt_3b067, cJ1_charAt_3b067, 2, some .char)
theorem my_J1_charAt_3b067 : ng_MY mi_J1_charAt_3b067 2 := ⟨ng_inG (i := 1138) (by decide +kernel) (by decide +kernel), li_J1, by decide +kernel, by decide⟩
theorem ms_J1_charAt_3b067 : Cond.static yJ1_charAt_3b067 ∈ ng_G := ng_inG (i := 1137) (by decide +kernel) (by decide +kernel)
abbrev mi_J0_checkIndex_df160 : ng_Y := (yJ0_checkIndex_df160, cJ0_checkIndex_df160, 2, none)
theorem my_J0_checkIndex_df160 : ng_MY mi_J0_checkIndex_df160 2 := ⟨ng_inG (i := 1141) (by decide +kernel) (by decide +kernel), li_J0, by decide +kernel, by decide⟩
theorem ms_J0_checkIndex_df160 : Cond.static yJ0_checkIndex_df160 ∈ ng_G := ng_inG (i := 1140) (by decide +kernel) (by decide +kernel)
abbrev mi_J3_checkIndex_8e157 : ng_Y := (yJ3_checkIndex_8e157, cJ3_checkIndex_8e157, 3, some .int)
theorem my_J3_checkIndex_8e157 : ng_MY mi_J3_checkIndex_8e157 3 := ⟨ng_inG (i := 1146) (by decide +kernel) (by decide +kernel), li_J3, by decide +kernel, by decide⟩
theorem ms_J3_checkIndex_8e157 : Cond.static yJ3_checkIndex_8e157 ∈ ng_G := ng_inG (i := 1145) (by decide +kernel) (by decide +kernel)
abbrev mi_J2_charAt_3b067 : ng_Y := (yJ2_charAt_3b067, cJ2_charAt_3b067, 2, some .char)
theorem my_J2_charAt_3b067 : ng_MY mi_J2_charAt_3b067 2 := ⟨ng_inG (i := 1149) (by decide +kernel) (by decide +kernel), li_J2, by decide +kernel, by decide⟩
theorem ms_J2_charAt_3b067 : Cond.static yJ2_charAt_3b067 ∈ ng_G := ng_inG (i := 1148) (by decide +kernel) (by decide +kernel)
abbrev mi_J2_checkIndex_2214a : ng_Y := (yJ2_checkIndex_2214a, cJ2_checkIndex_2214a, 2, none)
theorem my_J2_checkIndex_2214a : ng_MY mi_J2_checkIndex_2214a 2 := ⟨ng_inG (i := 1152) (by decide +kernel) (by decide +kernel), li_J2, by decide +kernel, by decide⟩
theorem ms_J2_checkIndex_2214a : Cond.static yJ2_checkIndex_2214a ∈ ng_G := ng_inG (i := 1151) (by decide +kernel) (by decide +kernel)
abbrev mi_J2_length_9d52b : ng_Y := (yJ2_length_9d52b, cJ2_length_9d52b, 1, some .int)
theorem my_J2_length_9d52b : ng_MY mi_J2_length_9d52b 1 := ⟨ng_inG (i := 1155) (by decide +kernel) (by decide +kernel), li_J2, by decide +kernel, by decide⟩
theorem ms_J2_length_9d52b : Cond.static yJ2_length_9d52b ∈ ng_G := ng_inG (i := 1154) (by decide +kernel) (by decide +kernel)
abbrev mi_J2_getChar_3b067 : ng_Y := (yJ2_getChar_3b067, cJ2_getChar_3b067, 2, some .char)
theorem my_J2_getChar_3b067 : ng_MY mi_J2_getChar_3b067 2 := ⟨ng_inG (i := 1159) (by decide +kernel) (by decide +kernel), li_J2, by decide +kernel, by decide⟩
theorem ms_J2_getChar_3b067 : Cond.static yJ2_getChar_3b067 ∈ ng_G := ng_inG (i := 1158) (by decide +kernel) (by decide +kernel)
abbrev mi_X9_law : ng_Y := (yX9_law, cX9_law, 6, some .int)
theorem my_X9_law : ng_MY mi_X9_law 5 := ⟨ng_inG (i := 1169) (by decide +kernel) (by decide +kernel), li_X9, by decide +kernel, by decide⟩
theorem ms_X9_law : Cond.instanceMethod yX9_law ∈ ng_G ∧ Cond.selects yX9_law.cls yX9_law yX9_law ∈ ng_G := ⟨ng_inG (i := 1167) (by decide +kernel) (by decide +kernel), ng_inG (i := 1168) (by decide +kernel) (by decide +kernel)⟩
abbrev mi_X9_year : ng_Y := (yX9_year, cX9_year, 3, some .int)
theorem my_X9_year : ng_MY mi_X9_year 2 := ⟨ng_inG (i := 1173) (by decide +kernel) (by decide +kernel), li_X9, by decide +kernel, by decide⟩
theorem ms_X9_year : Cond.instanceMethod yX9_year ∈ ng_G ∧ Cond.selects yX9_year.cls yX9_year yX9_year ∈ ng_G := ⟨ng_inG (i := 1171) (by decide +kernel) (by decide +kernel), ng_inG (i := 1172) (by decide +kernel) (by decide +kernel)⟩
abbrev mi_X9_goes : ng_Y := (yX9_goes, cX9_goes, 12, some .int)
theorem my_X9_goes : ng_MY mi_X9_goes 3 := ⟨ng_inG (i := 1178) (by decide +kernel) (by decide +kernel), li_X9, by decide +kernel, by decide⟩
theorem ms_X9_goes : Cond.instanceMethod yX9_goes ∈ ng_G ∧ Cond.selects yX9_goes.cls yX9_goes yX9_goes ∈ ng_G := ⟨ng_inG (i := 1177) (by decide +kernel) (by decide +kernel), ng_inG (i := 44) (by decide +kernel) (by decide +kernel)⟩
abbrev mi_X9_drawn : ng_Y := (yX9_drawn, cX9_drawn, 2, some .int)
theorem my_X9_drawn : ng_MY mi_X9_drawn 1 := ⟨ng_inG (i := 1182) (by decide +kernel) (by decide +kernel), li_X9, by decide +kernel, by decide⟩
theorem ms_X9_drawn : Cond.instanceMethod yX9_drawn ∈ ng_G ∧ Cond.selects yX9_drawn.cls yX9_drawn yX9_drawn ∈ ng_G := ⟨ng_inG (i := 1181) (by decide +kernel) (by decide +kernel), ng_inG (i := 45) (by decide +kernel) (by decide +kernel)⟩
abbrev mi_J9_min_f86c9 : ng_Y := (yJ9_min_f86c9, cJ9_min_f86c9, 4, some .long)
theorem my_J9_min_f86c9 : ng_MY mi_J9_min_f86c9 2 := ⟨ng_inG (i := 1188) (by decide +kernel) (by decide +kernel), li_J9, by decide +kernel, by decide⟩
theorem ms_J9_min_f86c9 : Cond.static yJ9_min_f86c9 ∈ ng_G := ng_inG (i := 1187) (by decide +kernel) (by decide +kernel)
abbrev mi_J9_max_f86c9 : ng_Y := (yJ9_max_f86c9, cJ9_max_f86c9, 4, some .long)
theorem my_J9_max_f86c9 : ng_MY mi_J9_max_f86c9 2 := ⟨ng_inG (i := 1191) (by decide +kernel) (by decide +kernel), li_J9, by decide +kernel, by decide⟩
theorem ms_J9_max_f86c9 : Cond.static yJ9_max_f86c9 ∈ ng_G := ng_inG (i := 1190) (by decide +kernel) (by decide +kernel)
abbrev mi_X9_give : ng_Y := (yX9_give, cX9_give, 2, some .int)
theorem my_X9_give : ng_MY mi_X9_give 1 := ⟨ng_inG (i := 1195) (by decide +kernel) (by decide +kernel), li_X9, by decide +kernel, by decide⟩
theorem ms_X9_give : Cond.instanceMethod yX9_give ∈ ng_G ∧ Cond.selects yX9_give.cls yX9_give yX9_give ∈ ng_G := ⟨ng_inG (i := 1193) (by decide +kernel) (by decide +kernel), ng_inG (i := 1194) (by decide +kernel) (by decide +kernel)⟩
abbrev mi_X9_gives : ng_Y := (yX9_gives, cX9_gives, 3, some .int)
theorem my_X9_gives : ng_MY mi_X9_gives 1 := ⟨ng_inG (i := 1199) (by decide +kernel) (by decide +kernel), li_X9, by decide +kernel, by decide⟩
theorem ms_X9_gives : Cond.instanceMethod yX9_gives ∈ ng_G ∧ Cond.selects yX9_gives.cls yX9_gives yX9_gives ∈ ng_G := ⟨ng_inG (i := 1198) (by decide +kernel) (by decide +kernel), ng_inG (i := 46) (by decide +kernel) (by decide +kernel)⟩
abbrev mi_X9_life : ng_Y := (yX9_life, cX9_life, 5, some .int)
theorem my_X9_life : ng_MY mi_X9_life 2 := ⟨ng_inG (i := 1203) (by decide +kernel) (by decide +kernel), li_X9, by decide +kernel, by decide⟩
theorem ms_X9_life : Cond.instanceMethod yX9_life ∈ ng_G ∧ Cond.selects yX9_life.cls yX9_life yX9_life ∈ ng_G := ⟨ng_inG (i := 1201) (by decide +kernel) (by decide +kernel), ng_inG (i := 1202) (by decide +kernel) (by decide +kernel)⟩
abbrev mi_X9_then : ng_Y := (yX9_then, cX9_then, 4, some .int)
theorem my_X9_then : ng_MY mi_X9_then 3 := ⟨ng_inG (i := 1207) (by decide +kernel) (by decide +kernel), li_X9, by decide +kernel, by decide⟩
theorem ms_X9_then : Cond.instanceMethod yX9_then ∈ ng_G ∧ Cond.selects yX9_then.cls yX9_then yX9_then ∈ ng_G := ⟨ng_inG (i := 1205) (by decide +kernel) (by decide +kernel), ng_inG (i := 1206) (by decide +kernel) (by decide +kernel)⟩
abbrev mi_X9_isAhead : ng_Y := (yX9_isAhead, cX9_isAhead, 1, some .boolean)
theorem my_X9_isAhead : ng_MY mi_X9_isAhead 1 := ⟨ng_inG (i := 1210) (by decide +kernel) (by decide +kernel), li_X9, by decide +kernel, by decide⟩
theorem ms_X9_isAhead : Cond.static yX9_isAhead ∈ ng_G := ng_inG (i := 1209) (by decide +kernel) (by decide +kernel)
abbrev mi_X9_copy : ng_Y := (yX9_copy, cX9_copy, 3, none)
theorem my_X9_copy : ng_MY mi_X9_copy 2 := ⟨ng_inG (i := 1213) (by decide +kernel) (by decide +kernel), li_X9, by decide +kernel, by decide⟩
theorem ms_X9_copy : Cond.static yX9_copy ∈ ng_G := ng_inG (i := 1212) (by decide +kernel) (by decide +kernel)
abbrev mi_X9_yearsGo : ng_Y := (yX9_yearsGo, cX9_yearsGo, 5, none)
theorem my_X9_yearsGo : ng_MY mi_X9_yearsGo 2 := ⟨ng_inG (i := 1217) (by decide +kernel) (by decide +kernel), li_X9, by decide +kernel, by decide⟩
theorem ms_X9_yearsGo : Cond.instanceMethod yX9_yearsGo ∈ ng_G ∧ Cond.selects yX9_yearsGo.cls yX9_yearsGo yX9_yearsGo ∈ ng_G := ⟨ng_inG (i := 1216) (by decide +kernel) (by decide +kernel), ng_inG (i := 47) (by decide +kernel) (by decide +kernel)⟩
abbrev mi_X9_toldOf : ng_Y := (yX9_toldOf, cX9_toldOf, 4, some .int)
theorem my_X9_toldOf : ng_MY mi_X9_toldOf 1 := ⟨ng_inG (i := 1221) (by decide +kernel) (by decide +kernel), li_X9, by decide +kernel, by decide⟩
theorem ms_X9_toldOf : Cond.instanceMethod yX9_toldOf ∈ ng_G ∧ Cond.selects yX9_toldOf.cls yX9_toldOf yX9_toldOf ∈ ng_G := ⟨ng_inG (i := 1220) (by decide +kernel) (by decide +kernel), ng_inG (i := 48) (by decide +kernel) (by decide +kernel)⟩
abbrev mi_X9_ends : ng_Y := (yX9_ends, cX9_ends, 1, some .int)
theorem my_X9_ends : ng_MY mi_X9_ends 0 := ⟨ng_inG (i := 1225) (by decide +kernel) (by decide +kernel), li_X9, by decide +kernel, by decide⟩
theorem ms_X9_ends : Cond.instanceMethod yX9_ends ∈ ng_G ∧ Cond.selects yX9_ends.cls yX9_ends yX9_ends ∈ ng_G := ⟨ng_inG (i := 1224) (by decide +kernel) (by decide +kernel), ng_inG (i := 49) (by decide +kernel) (by decide +kernel)⟩
abbrev mi_X9_putBack : ng_Y := (yX9_putBack, cX9_putBack, 2, some .int)
theorem my_X9_putBack : ng_MY mi_X9_putBack 1 := ⟨ng_inG (i := 1229) (by decide +kernel) (by decide +kernel), li_X9, by decide +kernel, by decide⟩
theorem ms_X9_putBack : Cond.instanceMethod yX9_putBack ∈ ng_G ∧ Cond.selects yX9_putBack.cls yX9_putBack yX9_putBack ∈ ng_G := ⟨ng_inG (i := 1228) (by decide +kernel) (by decide +kernel), ng_inG (i := 50) (by decide +kernel) (by decide +kernel)⟩
abbrev mi_X9_by : ng_Y := (yX9_by, cX9_by, 4, some .int)
theorem my_X9_by : ng_MY mi_X9_by 2 := ⟨ng_inG (i := 1233) (by decide +kernel) (by decide +kernel), li_X9, by decide +kernel, by decide⟩
theorem ms_X9_by : Cond.instanceMethod yX9_by ∈ ng_G ∧ Cond.selects yX9_by.cls yX9_by yX9_by ∈ ng_G := ⟨ng_inG (i := 1231) (by decide +kernel) (by decide +kernel), ng_inG (i := 1232) (by decide +kernel) (by decide +kernel)⟩
abbrev mi_X9_best : ng_Y := (yX9_best, cX9_best, 3, some .int)
theorem my_X9_best : ng_MY mi_X9_best 2 := ⟨ng_inG (i := 1237) (by decide +kernel) (by decide +kernel), li_X9, by decide +kernel, by decide⟩
theorem ms_X9_best : Cond.instanceMethod yX9_best ∈ ng_G ∧ Cond.selects yX9_best.cls yX9_best yX9_best ∈ ng_G := ⟨ng_inG (i := 1235) (by decide +kernel) (by decide +kernel), ng_inG (i := 1236) (by decide +kernel) (by decide +kernel)⟩
abbrev mi_X9_ofBest : ng_Y := (yX9_ofBest, cX9_ofBest, 4, some .int)
theorem my_X9_ofBest : ng_MY mi_X9_ofBest 3 := ⟨ng_inG (i := 1241) (by decide +kernel) (by decide +kernel), li_X9, by decide +kernel, by decide⟩
theorem ms_X9_ofBest : Cond.instanceMethod yX9_ofBest ∈ ng_G ∧ Cond.selects yX9_ofBest.cls yX9_ofBest yX9_ofBest ∈ ng_G := ⟨ng_inG (i := 1240) (by decide +kernel) (by decide +kernel), ng_inG (i := 51) (by decide +kernel) (by decide +kernel)⟩
abbrev mi_X9_findBest : ng_Y := (yX9_findBest, cX9_findBest, 10, none)
theorem my_X9_findBest : ng_MY mi_X9_findBest 2 := ⟨ng_inG (i := 1245) (by decide +kernel) (by decide +kernel), li_X9, by decide +kernel, by decide⟩
theorem ms_X9_findBest : Cond.instanceMethod yX9_findBest ∈ ng_G ∧ Cond.selects yX9_findBest.cls yX9_findBest yX9_findBest ∈ ng_G := ⟨ng_inG (i := 1244) (by decide +kernel) (by decide +kernel), ng_inG (i := 52) (by decide +kernel) (by decide +kernel)⟩
abbrev mi_X9_never : ng_Y := (yX9_never, cX9_never, 3, some .int)
theorem my_X9_never : ng_MY mi_X9_never 2 := ⟨ng_inG (i := 1249) (by decide +kernel) (by decide +kernel), li_X9, by decide +kernel, by decide⟩
theorem ms_X9_never : Cond.instanceMethod yX9_never ∈ ng_G ∧ Cond.selects yX9_never.cls yX9_never yX9_never ∈ ng_G := ⟨ng_inG (i := 1247) (by decide +kernel) (by decide +kernel), ng_inG (i := 1248) (by decide +kernel) (by decide +kernel)⟩
abbrev mi_X9_costs : ng_Y := (yX9_costs, cX9_costs, 3, some .int)
theorem my_X9_costs : ng_MY mi_X9_costs 1 := ⟨ng_inG (i := 1253) (by decide +kernel) (by decide +kernel), li_X9, by decide +kernel, by decide⟩
theorem ms_X9_costs : Cond.instanceMethod yX9_costs ∈ ng_G ∧ Cond.selects yX9_costs.cls yX9_costs yX9_costs ∈ ng_G := ⟨ng_inG (i := 1251) (by decide +kernel) (by decide +kernel), ng_inG (i := 1252) (by decide +kernel) (by decide +kernel)⟩
abbrev mi_X9_raise : ng_Y := (yX9_raise, cX9_raise, 5, some .int)
theorem my_X9_raise : ng_MY mi_X9_raise 1 := ⟨ng_inG (i := 1257) (by decide +kernel) (by decide +kernel), li_X9, by decide +kernel, by decide⟩
theorem ms_X9_raise : Cond.instanceMethod yX9_raise ∈ ng_G ∧ Cond.selects yX9_raise.cls yX9_raise yX9_raise ∈ ng_G := ⟨ng_inG (i := 1255) (by decide +kernel) (by decide +kernel), ng_inG (i := 1256) (by decide +kernel) (by decide +kernel)⟩
abbrev mi_X9_back : ng_Y := (yX9_back, cX9_back, 8, some .int)
theorem my_X9_back : ng_MY mi_X9_back 2 := ⟨ng_inG (i := 1261) (by decide +kernel) (by decide +kernel), li_X9, by decide +kernel, by decide⟩
theorem ms_X9_back : Cond.instanceMethod yX9_back ∈ ng_G ∧ Cond.selects yX9_back.cls yX9_back yX9_back ∈ ng_G := ⟨ng_inG (i := 1259) (by decide +kernel) (by decide +kernel), ng_inG (i := 1260) (by decide +kernel) (by decide +kernel)⟩
abbrev mi_X9_whom : ng_Y := (yX9_whom, cX9_whom, 8, some .int)
theorem my_X9_whom : ng_MY mi_X9_whom 2 := ⟨ng_inG (i := 1265) (by decide +kernel) (by decide +kernel), li_X9, by decide +kernel, by decide⟩
theorem ms_X9_whom : Cond.instanceMethod yX9_whom ∈ ng_G ∧ Cond.selects yX9_whom.cls yX9_whom yX9_whom ∈ ng_G := ⟨ng_inG (i := 1263) (by decide +kernel) (by decide +kernel), ng_inG (i := 1264) (by decide +kernel) (by decide +kernel)⟩
abbrev mi_X9_more : ng_Y := (yX9_more, cX9_more, 5, some .int)
theorem my_X9_more : ng_MY mi_X9_more 3 := ⟨ng_inG (i := 1269) (by decide +kernel) (by decide +kernel), li_X9, by decide +kernel, by decide⟩
theorem ms_X9_more : Cond.instanceMethod yX9_more ∈ ng_G ∧ Cond.selects yX9_more.cls yX9_more yX9_more ∈ ng_G := ⟨ng_inG (i := 1267) (by decide +kernel) (by decide +kernel), ng_inG (i := 1268) (by decide +kernel) (by decide +kernel)⟩
abbrev mi_X9_rests : ng_Y := (yX9_rests, cX9_rests, 6, some .int)
theorem my_X9_rests : ng_MY mi_X9_rests 1 := ⟨ng_inG (i := 1273) (by decide +kernel) (by decide +kernel), li_X9, by decide +kernel, by decide⟩
theorem ms_X9_rests : Cond.instanceMethod yX9_rests ∈ ng_G ∧ Cond.selects yX9_rests.cls yX9_rests yX9_rests ∈ ng_G := ⟨ng_inG (i := 1271) (by decide +kernel) (by decide +kernel), ng_inG (i := 1272) (by decide +kernel) (by decide +kernel)⟩
abbrev mi_X9_clear : ng_Y := (yX9_clear, cX9_clear, 5, some .int)
theorem my_X9_clear : ng_MY mi_X9_clear 0 := ⟨ng_inG (i := 1277) (by decide +kernel) (by decide +kernel), li_X9, by decide +kernel, by decide⟩
theorem ms_X9_clear : Cond.instanceMethod yX9_clear ∈ ng_G ∧ Cond.selects yX9_clear.cls yX9_clear yX9_clear ∈ ng_G := ⟨ng_inG (i := 1275) (by decide +kernel) (by decide +kernel), ng_inG (i := 1276) (by decide +kernel) (by decide +kernel)⟩
abbrev mi_X9_seed : ng_Y := (yX9_seed, cX9_seed, 2, some .int)
theorem my_X9_seed : ng_MY mi_X9_seed 1 := ⟨ng_inG (i := 1281) (by decide +kernel) (by decide +kernel), li_X9, by decide +kernel, by decide⟩
theorem ms_X9_seed : Cond.instanceMethod yX9_seed ∈ ng_G ∧ Cond.selects yX9_seed.cls yX9_seed yX9_seed ∈ ng_G := ⟨ng_inG (i := 1279) (by decide +kernel) (by decide +kernel), ng_inG (i := 1280) (by decide +kernel) (by decide +kernel)⟩
abbrev mi_X9_voice : ng_Y := (yX9_voice, cX9_voice, 4, some .int)
theorem my_X9_voice : ng_MY mi_X9_voice 3 := ⟨ng_inG (i := 1285) (by decide +kernel) (by decide +kernel), li_X9, by decide +kernel, by decide⟩
theorem ms_X9_voice : Cond.instanceMethod yX9_voice ∈ ng_G ∧ Cond.selects yX9_voice.cls yX9_voice yX9_voice ∈ ng_G := ⟨ng_inG (i := 1283) (by decide +kernel) (by decide +kernel), ng_inG (i := 1284) (by decide +kernel) (by decide +kernel)⟩
abbrev mi_X9_voiced : ng_Y := (yX9_voiced, cX9_voiced, 3, some .int)
theorem my_X9_voiced : ng_MY mi_X9_voiced 2 := ⟨ng_inG (i := 1289) (by decide +kernel) (by decide +kernel), li_X9, by decide +kernel, by decide⟩
theorem ms_X9_voiced : Cond.instanceMethod yX9_voiced ∈ ng_G ∧ Cond.selects yX9_voiced.cls yX9_voiced yX9_voiced ∈ ng_G := ⟨ng_inG (i := 1288) (by decide +kernel) (by decide +kernel), ng_inG (i := 53) (by decide +kernel) (by decide +kernel)⟩
abbrev mi_X9_bodyFrom : ng_Y := (yX9_bodyFrom, cX9_bodyFrom, 5, some .int)
theorem my_X9_bodyFrom : ng_MY mi_X9_bodyFrom 3 := ⟨ng_inG (i := 1293) (by decide +kernel) (by decide +kernel), li_X9, by decide +kernel, by decide⟩
theorem ms_X9_bodyFrom : Cond.instanceMethod yX9_bodyFrom ∈ ng_G ∧ Cond.selects yX9_bodyFrom.cls yX9_bodyFrom yX9_bodyFrom ∈ ng_G := ⟨ng_inG (i := 1292) (by decide +kernel) (by decide +kernel), ng_inG (i := 54) (by decide +kernel) (by decide +kernel)⟩
abbrev mi_X9_hasOwn : ng_Y := (yX9_hasOwn, cX9_hasOwn, 2, some .boolean)
theorem my_X9_hasOwn : ng_MY mi_X9_hasOwn 2 := ⟨ng_inG (i := 1296) (by decide +kernel) (by decide +kernel), li_X9, by decide +kernel, by decide⟩
theorem ms_X9_hasOwn : Cond.static yX9_hasOwn ∈ ng_G := ng_inG (i := 1295) (by decide +kernel) (by decide +kernel)
abbrev mi_X9_body : ng_Y := (yX9_body, cX9_body, 6, some .int)
theorem my_X9_body : ng_MY mi_X9_body 3 := ⟨ng_inG (i := 1300) (by decide +kernel) (by decide +kernel), li_X9, by decide +kernel, by decide⟩
theorem ms_X9_body : Cond.instanceMethod yX9_body ∈ ng_G ∧ Cond.selects yX9_body.cls yX9_body yX9_body ∈ ng_G := ⟨ng_inG (i := 1299) (by decide +kernel) (by decide +kernel), ng_inG (i := 55) (by decide +kernel) (by decide +kernel)⟩
abbrev mi_X9_began : ng_Y := (yX9_began, cX9_began, 2, none)
theorem my_X9_began : ng_MY mi_X9_began 1 := ⟨ng_inG (i := 1304) (by decide +kernel) (by decide +kernel), li_X9, by decide +kernel, by decide⟩
theorem ms_X9_began : Cond.instanceMethod yX9_began ∈ ng_G ∧ Cond.selects yX9_began.cls yX9_began yX9_began ∈ ng_G := ⟨ng_inG (i := 1303) (by decide +kernel) (by decide +kernel), ng_inG (i := 56) (by decide +kernel) (by decide +kernel)⟩
abbrev mi_X9_trace : ng_Y := (yX9_trace, cX9_trace, 2, some .int)
theorem my_X9_trace : ng_MY mi_X9_trace 1 := ⟨ng_inG (i := 1308) (by decide +kernel) (by decide +kernel), li_X9, by decide +kernel, by decide⟩
theorem ms_X9_trace : Cond.instanceMethod yX9_trace ∈ ng_G ∧ Cond.selects yX9_trace.cls yX9_trace yX9_trace ∈ ng_G := ⟨ng_inG (i := 1306) (by decide +kernel) (by decide +kernel), ng_inG (i := 1307) (by decide +kernel) (by decide +kernel)⟩
abbrev mi_X9_sheet : ng_Y := (yX9_sheet, cX9_sheet, 5, some .int)
theorem my_X9_sheet : ng_MY mi_X9_sheet 3 := ⟨ng_inG (i := 1312) (by decide +kernel) (by decide +kernel), li_X9, by decide +kernel, by decide⟩
theorem ms_X9_sheet : Cond.instanceMethod yX9_sheet ∈ ng_G ∧ Cond.selects yX9_sheet.cls yX9_sheet yX9_sheet ∈ ng_G := ⟨ng_inG (i := 1310) (by decide +kernel) (by decide +kernel), ng_inG (i := 1311) (by decide +kernel) (by decide +kernel)⟩
abbrev mi_X9_put : ng_Y := (yX9_put, cX9_put, 4, some .int)
theorem my_X9_put : ng_MY mi_X9_put 3 := ⟨ng_inG (i := 1316) (by decide +kernel) (by decide +kernel), li_X9, by decide +kernel, by decide⟩
theorem ms_X9_put : Cond.instanceMethod yX9_put ∈ ng_G ∧ Cond.selects yX9_put.cls yX9_put yX9_put ∈ ng_G := ⟨ng_inG (i := 1314) (by decide +kernel) (by decide +kernel), ng_inG (i := 1315) (by decide +kernel) (by decide +kernel)⟩
abbrev mi_X9_move : ng_Y := (yX9_move, cX9_move, 7, some .int)
theorem my_X9_move : ng_MY mi_X9_move 5 := ⟨ng_inG (i := 1320) (by decide +kernel) (by decide +kernel), li_X9, by decide +kernel, by decide⟩
theorem ms_X9_move : Cond.instanceMethod yX9_move ∈ ng_G ∧ Cond.selects yX9_move.cls yX9_move yX9_move ∈ ng_G := ⟨ng_inG (i := 1318) (by decide +kernel) (by decide +kernel), ng_inG (i := 1319) (by decide +kernel) (by decide +kernel)⟩
abbrev mi_X9_image : ng_Y := (yX9_image, cX9_image, 1, some .int)
theorem my_X9_image : ng_MY mi_X9_image 0 := ⟨ng_inG (i := 1324) (by decide +kernel) (by decide +kernel), li_X9, by decide +kernel, by decide⟩
theorem ms_X9_image : Cond.instanceMethod yX9_image ∈ ng_G ∧ Cond.selects yX9_image.cls yX9_image yX9_image ∈ ng_G := ⟨ng_inG (i := 1322) (by decide +kernel) (by decide +kernel), ng_inG (i := 1323) (by decide +kernel) (by decide +kernel)⟩
abbrev mi_X9_restore : ng_Y := (yX9_restore, cX9_restore, 1, some .int)
theorem my_X9_restore : ng_MY mi_X9_restore 0 := ⟨ng_inG (i := 1328) (by decide +kernel) (by decide +kernel), li_X9, by decide +kernel, by decide⟩
theorem ms_X9_restore : Cond.instanceMethod yX9_restore ∈ ng_G ∧ Cond.selects yX9_restore.cls yX9_restore yX9_restore ∈ ng_G := ⟨ng_inG (i := 1326) (by decide +kernel) (by decide +kernel), ng_inG (i := 1327) (by decide +kernel) (by decide +kernel)⟩
abbrev mi_X9_tell : ng_Y := (yX9_tell, cX9_tell, 2, some .int)
theorem my_X9_tell : ng_MY mi_X9_tell 1 := ⟨ng_inG (i := 1332) (by decide +kernel) (by decide +kernel), li_X9, by decide +kernel, by decide⟩
theorem ms_X9_tell : Cond.instanceMethod yX9_tell ∈ ng_G ∧ Cond.selects yX9_tell.cls yX9_tell yX9_tell ∈ ng_G := ⟨ng_inG (i := 1330) (by decide +kernel) (by decide +kernel), ng_inG (i := 1331) (by decide +kernel) (by decide +kernel)⟩
abbrev mi_X9_check : ng_Y := (yX9_check, cX9_check, 5, some .int)
theorem my_X9_check : ng_MY mi_X9_check 1 := ⟨ng_inG (i := 1336) (by decide +kernel) (by decide +kernel), li_X9, by decide +kernel, by decide⟩
theorem ms_X9_check : Cond.instanceMethod yX9_check ∈ ng_G ∧ Cond.selects yX9_check.cls yX9_check yX9_check ∈ ng_G := ⟨ng_inG (i := 1334) (by decide +kernel) (by decide +kernel), ng_inG (i := 1335) (by decide +kernel) (by decide +kernel)⟩
abbrev mi_X9_count : ng_Y := (yX9_count, cX9_count, 2, some .int)
theorem my_X9_count : ng_MY mi_X9_count 1 := ⟨ng_inG (i := 1340) (by decide +kernel) (by decide +kernel), li_X9, by decide +kernel, by decide⟩
theorem ms_X9_count : Cond.instanceMethod yX9_count ∈ ng_G ∧ Cond.selects yX9_count.cls yX9_count yX9_count ∈ ng_G := ⟨ng_inG (i := 1338) (by decide +kernel) (by decide +kernel), ng_inG (i := 1339) (by decide +kernel) (by decide +kernel)⟩
abbrev mi_X9_told : ng_Y := (yX9_told, cX9_told, 2, some .int)
theorem my_X9_told : ng_MY mi_X9_told 1 := ⟨ng_inG (i := 1344) (by decide +kernel) (by decide +kernel), li_X9, by decide +kernel, by decide⟩
theorem ms_X9_told : Cond.instanceMethod yX9_told ∈ ng_G ∧ Cond.selects yX9_told.cls yX9_told yX9_told ∈ ng_G := ⟨ng_inG (i := 1342) (by decide +kernel) (by decide +kernel), ng_inG (i := 1343) (by decide +kernel) (by decide +kernel)⟩
abbrev mi_L_law : ng_Y := (yL_law, cL_law, 4, some .boolean)
theorem mc_X0 : ∃ (T : u_T) (N : Nat), vwCl[0]? = some (RX0, T, N) := ⟨TX0, 4, rfl⟩
theorem mc_X1 : ∃ (T : u_T) (N : Nat), vwCl[1]? = some (RX1, T, N) := ⟨TX1, 6, rfl⟩
theorem mc_X2 : ∃ (T : u_T) (N : Nat), vwCl[2]? = some (RX2, T, N) := ⟨TX2, 6, rfl⟩
theorem mc_X3 : ∃ (T : u_T) (N : Nat), vwCl[3]? = some (RX3, T, N) := ⟨TX3, 7, rfl⟩
theorem mc_X4 : ∃ (T : u_T) (N : Nat), vwCl[4]? = some (RX4, T, N) := ⟨TX4, 3, rfl⟩
theorem mc_X5 : ∃ (T : u_T) (N : Nat), vwCl[5]? = some (RX5, T, N) := ⟨TX5, 12, rfl⟩
theorem mc_X6 : ∃ (T : u_T) (N : Nat), vwCl[6]? = some (RX6, T, N) := ⟨TX6, 5, rfl⟩
theorem mc_X7 : ∃ (T : u_T) (N : Nat), vwCl[7]? = some (RX7, T, N) := ⟨TX7, 8, rfl⟩
theorem mc_X8 : ∃ (T : u_T) (N : Nat), vwCl[8]? = some (RX8, T, N) := ⟨TX8, 8, rfl⟩
theorem mc_X9 : ∃ (T : u_T) (N : Nat), vwCl[9]? = some (RX9, T, N) := ⟨TX9, 25, rfl⟩
theorem lk_L_9 : Cond.methodLink RL 9 yX8_init ∈ ng_G := ng_inG (i := 76) (by decide +kernel) (by decide +kernel)
theorem lk_X8_3 : Cond.methodLink RX8 3 objectInit ∈ ng_G := ng_inG (i := 79) (by decide +kernel) (by decide +kernel)
theorem lk_X7_3 : Cond.methodLink RX7 3 objectInit ∈ ng_G := ng_inG (i := 87) (by decide +kernel) (by decide +kernel)
theorem lk_X7_11 : Cond.methodLink RX7 11 yX3_init ∈ ng_G := ng_inG (i := 90) (by decide +kernel) (by decide +kernel)
theorem lk_X3_3 : Cond.methodLink RX3 3 objectInit ∈ ng_G := ng_inG (i := 93) (by decide +kernel) (by decide +kernel)
theorem lk_X0_3 : Cond.methodLink RX0 3 objectInit ∈ ng_G := ng_inG (i := 99) (by decide +kernel) (by decide +kernel)
theorem lk_X7_20 : Cond.methodLink RX7 20 yX5_init ∈ ng_G := ng_inG (i := 157) (by decide +kernel) (by decide +kernel)
theorem lk_X5_3 : Cond.methodLink RX5 3 objectInit ∈ ng_G := ng_inG (i := 160) (by decide +kernel) (by decide +kernel)
theorem lk_X8_25 : Cond.methodLink RX8 25 yX1_init ∈ ng_G := ng_inG (i := 244) (by decide +kernel) (by decide +kernel)
theorem lk_X1_3 : Cond.methodLink RX1 3 objectInit ∈ ng_G := ng_inG (i := 247) (by decide +kernel) (by decide +kernel)
theorem lk_X1_24 : Cond.methodLink RX1 24 yX5_init ∈ ng_G := ng_inG (i := 250) (by decide +kernel) (by decide +kernel)
theorem lk_X6_3 : Cond.methodLink RX6 3 objectInit ∈ ng_G := ng_inG (i := 275) (by decide +kernel) (by decide +kernel)
theorem lk_X2_3 : Cond.methodLink RX2 3 objectInit ∈ ng_G := ng_inG (i := 299) (by decide +kernel) (by decide +kernel)
theorem lk_X4_3 : Cond.methodLink RX4 3 objectInit ∈ ng_G := ng_inG (i := 327) (by decide +kernel) (by decide +kernel)
theorem lk_L_13 : Cond.methodLink RL 13 yX8_coins ∈ ng_G := ng_inG (i := 366) (by decide +kernel) (by decide +kernel)
theorem lk_X8_57 : Cond.methodLink RX8 57 yX8_isStep ∈ ng_G := ng_inG (i := 370) (by decide +kernel) (by decide +kernel)
theorem lk_X8_61 : Cond.methodLink RX8 61 yX8_isWithin ∈ ng_G := ng_inG (i := 373) (by decide +kernel) (by decide +kernel)
theorem lk_X8_66 : Cond.methodLink RX8 66 yX8_fails ∈ ng_G := ng_inG (i := 377) (by decide +kernel) (by decide +kernel)
theorem lk_L_18 : Cond.methodLink RL 18 yX8_set ∈ ng_G := ng_inG (i := 382) (by decide +kernel) (by decide +kernel)
theorem lk_X8_85 : Cond.methodLink RX8 85 yX5_setting ∈ ng_G := ng_inG (i := 390) (by decide +kernel) (by decide +kernel)
theorem lk_X8_90 : Cond.methodLink RX8 90 yX5_change ∈ ng_G := ng_inG (i := 394) (by decide +kernel) (by decide +kernel)
theorem lk_L_22 : Cond.methodLink RL 22 yX8_buyer ∈ ng_G := ng_inG (i := 398) (by decide +kernel) (by decide +kernel)
theorem lk_X8_94 : Cond.methodLink RX8 94 yX8_isBuyerAsTold ∈ ng_G := ng_inG (i := 402) (by decide +kernel) (by decide +kernel)
theorem lk_X8_97 : Cond.methodLink RX8 97 yX7_comes ∈ ng_G := ng_inG (i := 405) (by decide +kernel) (by decide +kernel)
theorem lk_L_27 : Cond.methodLink RL 27 yX8_ofBuyer ∈ ng_G := ng_inG (i := 410) (by decide +kernel) (by decide +kernel)
theorem lk_X8_102 : Cond.methodLink RX8 102 yX3_isBuyer ∈ ng_G := ng_inG (i := 414) (by decide +kernel) (by decide +kernel)
theorem lk_L_31 : Cond.methodLink RL 31 yX8_as ∈ ng_G := ng_inG (i := 419) (by decide +kernel) (by decide +kernel)
theorem lk_X8_117 : Cond.methodLink RX8 117 yX8_isOf ∈ ng_G := ng_inG (i := 423) (by decide +kernel) (by decide +kernel)
theorem lk_L_35 : Cond.methodLink RL 35 yX8_has ∈ ng_G := ng_inG (i := 429) (by decide +kernel) (by decide +kernel)
theorem lk_L_39 : Cond.methodLink RL 39 yX8_buyers ∈ ng_G := ng_inG (i := 433) (by decide +kernel) (by decide +kernel)
theorem lk_X8_122 : Cond.methodLink RX8 122 yX8_sheetAt ∈ ng_G := ng_inG (i := 437) (by decide +kernel) (by decide +kernel)
theorem lk_X8_126 : Cond.methodLink RX8 126 yX4_isMissing ∈ ng_G := ng_inG (i := 441) (by decide +kernel) (by decide +kernel)
theorem lk_X8_131 : Cond.methodLink RX8 131 yX8_bringBuyers ∈ ng_G := ng_inG (i := 446) (by decide +kernel) (by decide +kernel)
theorem lk_X8_139 : Cond.methodLink RX8 139 yX4_number ∈ ng_G := ng_inG (i := 450) (by decide +kernel) (by decide +kernel)
theorem lk_L_44 : Cond.methodLink RL 44 yX8_at ∈ ng_G := ng_inG (i := 455) (by decide +kernel) (by decide +kernel)
theorem lk_X8_142 : Cond.methodLink RX8 142 yX5_appraise ∈ ng_G := ng_inG (i := 459) (by decide +kernel) (by decide +kernel)
theorem lk_X5_65 : Cond.methodLink RX5 65 yX3_plainWorth ∈ ng_G := ng_inG (i := 463) (by decide +kernel) (by decide +kernel)
theorem lk_X3_58 : Cond.methodLink RX3 58 yX0_isMissing ∈ ng_G := ng_inG (i := 467) (by decide +kernel) (by decide +kernel)
theorem lk_X3_62 : Cond.methodLink RX3 62 yX0_gives ∈ ng_G := ng_inG (i := 471) (by decide +kernel) (by decide +kernel)
theorem lk_X0_41 : Cond.methodLink RX0 41 yX0_named ∈ ng_G := ng_inG (i := 475) (by decide +kernel) (by decide +kernel)
theorem lk_X0_45 : Cond.methodLink RX0 45 yX0_joined ∈ ng_G := ng_inG (i := 479) (by decide +kernel) (by decide +kernel)
theorem lk_X8_307 : Cond.methodLink RX8 307 Lib.Math.min.name ∈ ng_G := ng_inG (i := 486) (by decide +kernel) (by decide +kernel)
theorem lk_X8_312 : Cond.methodLink RX8 312 Lib.Math.max.name ∈ ng_G := ng_inG (i := 489) (by decide +kernel) (by decide +kernel)
theorem lk_X8_145 : Cond.methodLink RX8 145 yX5_worth ∈ ng_G := ng_inG (i := 492) (by decide +kernel) (by decide +kernel)
theorem lk_X8_149 : Cond.methodLink RX8 149 yX5_due ∈ ng_G := ng_inG (i := 496) (by decide +kernel) (by decide +kernel)
theorem lk_X8_152 : Cond.methodLink RX8 152 yX5_buys ∈ ng_G := ng_inG (i := 500) (by decide +kernel) (by decide +kernel)
theorem lk_X5_72 : Cond.methodLink RX5 72 yX5_due ∈ ng_G := ng_inG (i := 504) (by decide +kernel) (by decide +kernel)
theorem lk_X5_76 : Cond.methodLink RX5 76 yX5_worth ∈ ng_G := ng_inG (i := 505) (by decide +kernel) (by decide +kernel)
theorem lk_X5_79 : Cond.methodLink RX5 79 yX5_takes ∈ ng_G := ng_inG (i := 506) (by decide +kernel) (by decide +kernel)
theorem lk_X5_82 : Cond.methodLink RX5 82 Lib.Math.min.name ∈ ng_G := ng_inG (i := 510) (by decide +kernel) (by decide +kernel)
theorem lk_X5_89 : Cond.methodLink RX5 89 Lib.Math.max.name ∈ ng_G := ng_inG (i := 511) (by decide +kernel) (by decide +kernel)
theorem lk_L_51 : Cond.methodLink RL 51 yX8_feed ∈ ng_G := ng_inG (i := 512) (by decide +kernel) (by decide +kernel)
theorem lk_L_56 : Cond.methodLink RL 56 yX8_text ∈ ng_G := ng_inG (i := 516) (by decide +kernel) (by decide +kernel)
theorem lk_X8_161 : Cond.methodLink RX8 161 yX2_reads ∈ ng_G := ng_inG (i := 520) (by decide +kernel) (by decide +kernel)
theorem lk_X2_22 : Cond.methodLink RX2 22 Lib.Math.min.name ∈ ng_G := ng_inG (i := 524) (by decide +kernel) (by decide +kernel)
theorem lk_X2_35 : Cond.methodLink RX2 35 arraycopyName ∈ ng_G := ng_inG (i := 526) (by decide +kernel) (by decide +kernel)
theorem lk_X2_47 : Cond.methodLink RX2 47 yX2_readsRule ∈ ng_G := ng_inG (i := 529) (by decide +kernel) (by decide +kernel)
theorem lk_X2_51 : Cond.methodLink RX2 51 yX2_readsQ ∈ ng_G := ng_inG (i := 533) (by decide +kernel) (by decide +kernel)
theorem lk_X2_55 : Cond.methodLink RX2 55 yX2_ahead ∈ ng_G := ng_inG (i := 537) (by decide +kernel) (by decide +kernel)
theorem lk_X2_69 : Cond.methodLink RX2 69 yX2_isDigit ∈ ng_G := ng_inG (i := 541) (by decide +kernel) (by decide +kernel)
theorem lk_X2_72 : Cond.methodLink RX2 72 yX2_readsNumber ∈ ng_G := ng_inG (i := 545) (by decide +kernel) (by decide +kernel)
theorem lk_X2_65 : Cond.methodLink RX2 65 yX2_makes ∈ ng_G := ng_inG (i := 549) (by decide +kernel) (by decide +kernel)
theorem lk_X2_75 : Cond.methodLink RX2 75 yX2_nameOf ∈ ng_G := ng_inG (i := 553) (by decide +kernel) (by decide +kernel)
theorem lk_X2_78 : Cond.methodLink RX2 78 yX2_readsNot ∈ ng_G := ng_inG (i := 559) (by decide +kernel) (by decide +kernel)
theorem lk_X2_81 : Cond.methodLink RX2 81 yX2_readsInside ∈ ng_G := ng_inG (i := 563) (by decide +kernel) (by decide +kernel)
theorem lk_X2_59 : Cond.methodLink RX2 59 yX2_ruleOf ∈ ng_G := ng_inG (i := 567) (by decide +kernel) (by decide +kernel)
theorem lk_X8_165 : Cond.methodLink RX8 165 yX3_formula ∈ ng_G := ng_inG (i := 570) (by decide +kernel) (by decide +kernel)
theorem lk_X8_175 : Cond.methodLink RX8 175 yX0_take ∈ ng_G := ng_inG (i := 574) (by decide +kernel) (by decide +kernel)
theorem lk_X0_25 : Cond.methodLink RX0 25 Lib.Math.min.name ∈ ng_G := ng_inG (i := 578) (by decide +kernel) (by decide +kernel)
theorem lk_X0_35 : Cond.methodLink RX0 35 arraycopyName ∈ ng_G := ng_inG (i := 580) (by decide +kernel) (by decide +kernel)
theorem lk_L_60 : Cond.methodLink RL 60 yX8_law ∈ ng_G := ng_inG (i := 581) (by decide +kernel) (by decide +kernel)
theorem lk_X8_181 : Cond.methodLink RX8 181 yX3_plainWorth ∈ ng_G := ng_inG (i := 585) (by decide +kernel) (by decide +kernel)
theorem lk_X8_185 : Cond.methodLink RX8 185 yX3_fame ∈ ng_G := ng_inG (i := 586) (by decide +kernel) (by decide +kernel)
theorem lk_L_65 : Cond.methodLink RL 65 yX8_year ∈ ng_G := ng_inG (i := 590) (by decide +kernel) (by decide +kernel)
theorem lk_X8_192 : Cond.methodLink RX8 192 yX5_goes ∈ ng_G := ng_inG (i := 595) (by decide +kernel) (by decide +kernel)
theorem lk_X5_116 : Cond.methodLink RX5 116 yX5_appraise ∈ ng_G := ng_inG (i := 599) (by decide +kernel) (by decide +kernel)
theorem lk_X5_119 : Cond.methodLink RX5 119 yX5_sells ∈ ng_G := ng_inG (i := 600) (by decide +kernel) (by decide +kernel)
theorem lk_X5_92 : Cond.methodLink RX5 92 yX5_pots ∈ ng_G := ng_inG (i := 604) (by decide +kernel) (by decide +kernel)
theorem lk_X5_95 : Cond.methodLink RX5 95 yX5_buys ∈ ng_G := ng_inG (i := 608) (by decide +kernel) (by decide +kernel)
theorem lk_X5_123 : Cond.methodLink RX5 123 yX5_settles ∈ ng_G := ng_inG (i := 612) (by decide +kernel) (by decide +kernel)
theorem lk_X5_113 : Cond.methodLink RX5 113 yX3_fame ∈ ng_G := ng_inG (i := 616) (by decide +kernel) (by decide +kernel)
theorem lk_L_69 : Cond.methodLink RL 69 yX8_give ∈ ng_G := ng_inG (i := 617) (by decide +kernel) (by decide +kernel)
theorem lk_X8_202 : Cond.methodLink RX8 202 yX5_gives ∈ ng_G := ng_inG (i := 621) (by decide +kernel) (by decide +kernel)
theorem lk_L_73 : Cond.methodLink RL 73 yX8_life ∈ ng_G := ng_inG (i := 626) (by decide +kernel) (by decide +kernel)
theorem lk_X8_206 : Cond.methodLink RX8 206 yX7_drawn ∈ ng_G := ng_inG (i := 630) (by decide +kernel) (by decide +kernel)
theorem lk_L_77 : Cond.methodLink RL 77 yX8_then ∈ ng_G := ng_inG (i := 635) (by decide +kernel) (by decide +kernel)
theorem lk_X8_210 : Cond.methodLink RX8 210 yX1_from ∈ ng_G := ng_inG (i := 639) (by decide +kernel) (by decide +kernel)
theorem lk_X1_31 : Cond.methodLink RX1 31 yX5_take ∈ ng_G := ng_inG (i := 643) (by decide +kernel) (by decide +kernel)
theorem lk_X5_29 : Cond.methodLink RX5 29 arraycopyName ∈ ng_G := ng_inG (i := 647) (by decide +kernel) (by decide +kernel)
theorem lk_X8_214 : Cond.methodLink RX8 214 yX5_goesYears ∈ ng_G := ng_inG (i := 648) (by decide +kernel) (by decide +kernel)
theorem lk_X5_126 : Cond.methodLink RX5 126 yX5_goes ∈ ng_G := ng_inG (i := 652) (by decide +kernel) (by decide +kernel)
theorem lk_X8_217 : Cond.methodLink RX8 217 yX5_figure ∈ ng_G := ng_inG (i := 653) (by decide +kernel) (by decide +kernel)
theorem lk_X5_47 : Cond.methodLink RX5 47 yX5_ends ∈ ng_G := ng_inG (i := 657) (by decide +kernel) (by decide +kernel)
theorem lk_X5_51 : Cond.methodLink RX5 51 yX5_hasInAll ∈ ng_G := ng_inG (i := 661) (by decide +kernel) (by decide +kernel)
theorem lk_L_81 : Cond.methodLink RL 81 yX8_by ∈ ng_G := ng_inG (i := 665) (by decide +kernel) (by decide +kernel)
theorem lk_L_85 : Cond.methodLink RL 85 yX8_best ∈ ng_G := ng_inG (i := 669) (by decide +kernel) (by decide +kernel)
theorem lk_X8_220 : Cond.methodLink RX8 220 yX8_ofBestRow ∈ ng_G := ng_inG (i := 673) (by decide +kernel) (by decide +kernel)
theorem lk_X8_224 : Cond.methodLink RX8 224 yX1_bestEnds ∈ ng_G := ng_inG (i := 677) (by decide +kernel) (by decide +kernel)
theorem lk_X1_47 : Cond.methodLink RX1 47 yX1_goOn ∈ ng_G := ng_inG (i := 681) (by decide +kernel) (by decide +kernel)
theorem lk_X1_54 : Cond.methodLink RX1 54 yX5_appraise ∈ ng_G := ng_inG (i := 685) (by decide +kernel) (by decide +kernel)
theorem lk_X1_60 : Cond.methodLink RX1 60 yX5_sells ∈ ng_G := ng_inG (i := 686) (by decide +kernel) (by decide +kernel)
theorem lk_X1_64 : Cond.methodLink RX1 64 yX5_ends ∈ ng_G := ng_inG (i := 687) (by decide +kernel) (by decide +kernel)
theorem lk_X1_68 : Cond.methodLink RX1 68 yX1_keepIfMore ∈ ng_G := ng_inG (i := 688) (by decide +kernel) (by decide +kernel)
theorem lk_X1_75 : Cond.methodLink RX1 75 arraycopyName ∈ ng_G := ng_inG (i := 692) (by decide +kernel) (by decide +kernel)
theorem lk_X1_72 : Cond.methodLink RX1 72 yX5_settles ∈ ng_G := ng_inG (i := 693) (by decide +kernel) (by decide +kernel)
theorem lk_X8_228 : Cond.methodLink RX8 228 yX1_bestStep ∈ ng_G := ng_inG (i := 694) (by decide +kernel) (by decide +kernel)
theorem lk_L_89 : Cond.methodLink RL 89 yX8_never ∈ ng_G := ng_inG (i := 699) (by decide +kernel) (by decide +kernel)
theorem lk_L_93 : Cond.methodLink RL 93 yX8_costs ∈ ng_G := ng_inG (i := 703) (by decide +kernel) (by decide +kernel)
theorem lk_L_97 : Cond.methodLink RL 97 yX8_raise ∈ ng_G := ng_inG (i := 707) (by decide +kernel) (by decide +kernel)
theorem lk_X8_231 : Cond.methodLink RX8 231 yX1_leastKeptToRaise ∈ ng_G := ng_inG (i := 711) (by decide +kernel) (by decide +kernel)
theorem lk_X1_81 : Cond.methodLink RX1 81 yX1_bestEnds ∈ ng_G := ng_inG (i := 715) (by decide +kernel) (by decide +kernel)
theorem lk_L_101 : Cond.methodLink RL 101 yX8_back ∈ ng_G := ng_inG (i := 716) (by decide +kernel) (by decide +kernel)
theorem lk_X8_235 : Cond.methodLink RX8 235 yX1_bestBack ∈ ng_G := ng_inG (i := 720) (by decide +kernel) (by decide +kernel)
theorem lk_X1_85 : Cond.methodLink RX1 85 yX5_goes ∈ ng_G := ng_inG (i := 724) (by decide +kernel) (by decide +kernel)
theorem lk_X1_88 : Cond.methodLink RX1 88 yX5_goesYears ∈ ng_G := ng_inG (i := 725) (by decide +kernel) (by decide +kernel)
theorem lk_L_105 : Cond.methodLink RL 105 yX8_whom ∈ ng_G := ng_inG (i := 726) (by decide +kernel) (by decide +kernel)
theorem lk_X8_242 : Cond.methodLink RX8 242 yX1_bestGiven ∈ ng_G := ng_inG (i := 730) (by decide +kernel) (by decide +kernel)
theorem lk_X1_101 : Cond.methodLink RX1 101 yX5_gives ∈ ng_G := ng_inG (i := 734) (by decide +kernel) (by decide +kernel)
theorem lk_L_109 : Cond.methodLink RL 109 yX8_more ∈ ng_G := ng_inG (i := 735) (by decide +kernel) (by decide +kernel)
theorem lk_X8_245 : Cond.methodLink RX8 245 yX1_endsWithMore ∈ ng_G := ng_inG (i := 739) (by decide +kernel) (by decide +kernel)
theorem lk_L_113 : Cond.methodLink RL 113 yX8_rests ∈ ng_G := ng_inG (i := 744) (by decide +kernel) (by decide +kernel)
theorem lk_X8_249 : Cond.methodLink RX8 249 yX1_yearsToRest ∈ ng_G := ng_inG (i := 748) (by decide +kernel) (by decide +kernel)
theorem lk_L_117 : Cond.methodLink RL 117 yX8_clear ∈ ng_G := ng_inG (i := 752) (by decide +kernel) (by decide +kernel)
theorem lk_X8_252 : Cond.methodLink RX8 252 yX1_leastClearing ∈ ng_G := ng_inG (i := 756) (by decide +kernel) (by decide +kernel)
theorem lk_X1_114 : Cond.methodLink RX1 114 yX5_pots ∈ ng_G := ng_inG (i := 760) (by decide +kernel) (by decide +kernel)
theorem lk_L_122 : Cond.methodLink RL 122 yX8_seed ∈ ng_G := ng_inG (i := 761) (by decide +kernel) (by decide +kernel)
theorem lk_L_126 : Cond.methodLink RL 126 yX8_voice ∈ ng_G := ng_inG (i := 765) (by decide +kernel) (by decide +kernel)
theorem lk_X8_259 : Cond.methodLink RX8 259 yX6_speaks ∈ ng_G := ng_inG (i := 769) (by decide +kernel) (by decide +kernel)
theorem lk_X6_36 : Cond.methodLink RX6 36 yX6_own ∈ ng_G := ng_inG (i := 773) (by decide +kernel) (by decide +kernel)
theorem lk_X6_40 : Cond.methodLink RX6 40 yX6_bodyFrom ∈ ng_G := ng_inG (i := 777) (by decide +kernel) (by decide +kernel)
theorem lk_X6_44 : Cond.methodLink RX6 44 yX6_body ∈ ng_G := ng_inG (i := 784) (by decide +kernel) (by decide +kernel)
theorem lk_X6_57 : Cond.methodLink RX6 57 yX6_begins ∈ ng_G := ng_inG (i := 788) (by decide +kernel) (by decide +kernel)
theorem lk_X6_61 : Cond.methodLink RX6 61 yX6_above ∈ ng_G := ng_inG (i := 792) (by decide +kernel) (by decide +kernel)
theorem lk_L_130 : Cond.methodLink RL 130 yX8_trace ∈ ng_G := ng_inG (i := 796) (by decide +kernel) (by decide +kernel)
theorem lk_L_134 : Cond.methodLink RL 134 yX8_sheet ∈ ng_G := ng_inG (i := 800) (by decide +kernel) (by decide +kernel)
theorem lk_X8_269 : Cond.methodLink RX8 269 yX4_becomes ∈ ng_G := ng_inG (i := 804) (by decide +kernel) (by decide +kernel)
theorem lk_L_138 : Cond.methodLink RL 138 yX8_put ∈ ng_G := ng_inG (i := 809) (by decide +kernel) (by decide +kernel)
theorem lk_X8_272 : Cond.methodLink RX8 272 yX4_change ∈ ng_G := ng_inG (i := 813) (by decide +kernel) (by decide +kernel)
theorem lk_X4_30 : Cond.methodLink RX4 30 yX4_lowest ∈ ng_G := ng_inG (i := 817) (by decide +kernel) (by decide +kernel)
theorem lk_L_142 : Cond.methodLink RL 142 yX8_move ∈ ng_G := ng_inG (i := 821) (by decide +kernel) (by decide +kernel)
theorem lk_X8_276 : Cond.methodLink RX8 276 yX4_holds ∈ ng_G := ng_inG (i := 825) (by decide +kernel) (by decide +kernel)
theorem lk_X8_282 : Cond.methodLink RX8 282 arraycopyName ∈ ng_G := ng_inG (i := 829) (by decide +kernel) (by decide +kernel)
theorem lk_L_146 : Cond.methodLink RL 146 yX8_image ∈ ng_G := ng_inG (i := 830) (by decide +kernel) (by decide +kernel)
theorem lk_X8_288 : Cond.methodLink RX8 288 yX7_take ∈ ng_G := ng_inG (i := 834) (by decide +kernel) (by decide +kernel)
theorem lk_X7_38 : Cond.methodLink RX7 38 yX3_take ∈ ng_G := ng_inG (i := 838) (by decide +kernel) (by decide +kernel)
theorem lk_X3_34 : Cond.methodLink RX3 34 arraycopyName ∈ ng_G := ng_inG (i := 842) (by decide +kernel) (by decide +kernel)
theorem lk_X3_47 : Cond.methodLink RX3 47 yX0_take ∈ ng_G := ng_inG (i := 843) (by decide +kernel) (by decide +kernel)
theorem lk_X7_41 : Cond.methodLink RX7 41 yX5_take ∈ ng_G := ng_inG (i := 844) (by decide +kernel) (by decide +kernel)
theorem lk_X7_44 : Cond.methodLink RX7 44 arraycopyName ∈ ng_G := ng_inG (i := 845) (by decide +kernel) (by decide +kernel)
theorem lk_L_150 : Cond.methodLink RL 150 yX8_restore ∈ ng_G := ng_inG (i := 846) (by decide +kernel) (by decide +kernel)
theorem lk_L_154 : Cond.methodLink RL 154 yX8_tell ∈ ng_G := ng_inG (i := 850) (by decide +kernel) (by decide +kernel)
theorem lk_L_158 : Cond.methodLink RL 158 yX8_check ∈ ng_G := ng_inG (i := 854) (by decide +kernel) (by decide +kernel)
theorem lk_X8_300 : Cond.methodLink RX8 300 yX8_firstUnlike ∈ ng_G := ng_inG (i := 858) (by decide +kernel) (by decide +kernel)
theorem lk_X8_303 : Cond.methodLink RX8 303 yX5_pots ∈ ng_G := ng_inG (i := 862) (by decide +kernel) (by decide +kernel)
theorem lk_L_162 : Cond.methodLink RL 162 yX8_count ∈ ng_G := ng_inG (i := 863) (by decide +kernel) (by decide +kernel)
theorem lk_L_166 : Cond.methodLink RL 166 yX8_told ∈ ng_G := ng_inG (i := 867) (by decide +kernel) (by decide +kernel)
theorem lk_L_12 : Cond.methodLink RL 12 yX9_init ∈ ng_G := ng_inG (i := 873) (by decide +kernel) (by decide +kernel)
theorem lk_X9_3 : Cond.methodLink RX9 3 objectInit ∈ ng_G := ng_inG (i := 876) (by decide +kernel) (by decide +kernel)
theorem lk_L_17 : Cond.methodLink RL 17 yX9_coins ∈ ng_G := ng_inG (i := 959) (by decide +kernel) (by decide +kernel)
theorem lk_X9_84 : Cond.methodLink RX9 84 yX9_isStep ∈ ng_G := ng_inG (i := 963) (by decide +kernel) (by decide +kernel)
theorem lk_X9_80 : Cond.methodLink RX9 80 yX9_within ∈ ng_G := ng_inG (i := 966) (by decide +kernel) (by decide +kernel)
theorem lk_X9_88 : Cond.methodLink RX9 88 yX9_become ∈ ng_G := ng_inG (i := 969) (by decide +kernel) (by decide +kernel)
theorem lk_X9_92 : Cond.methodLink RX9 92 yX9_finding ∈ ng_G := ng_inG (i := 974) (by decide +kernel) (by decide +kernel)
theorem lk_L_21 : Cond.methodLink RL 21 yX9_set ∈ ng_G := ng_inG (i := 979) (by decide +kernel) (by decide +kernel)
theorem lk_L_26 : Cond.methodLink RL 26 yX9_buyer ∈ ng_G := ng_inG (i := 984) (by decide +kernel) (by decide +kernel)
theorem lk_X9_97 : Cond.methodLink RX9 97 yX9_isAsTold ∈ ng_G := ng_inG (i := 988) (by decide +kernel) (by decide +kernel)
theorem lk_X9_101 : Cond.methodLink RX9 101 yX9_comes ∈ ng_G := ng_inG (i := 992) (by decide +kernel) (by decide +kernel)
theorem lk_L_30 : Cond.methodLink RL 30 yX9_ofBuyer ∈ ng_G := ng_inG (i := 996) (by decide +kernel) (by decide +kernel)
theorem lk_X9_105 : Cond.methodLink RX9 105 yX9_is ∈ ng_G := ng_inG (i := 1000) (by decide +kernel) (by decide +kernel)
theorem lk_X9_108 : Cond.methodLink RX9 108 yX9_of ∈ ng_G := ng_inG (i := 1004) (by decide +kernel) (by decide +kernel)
theorem lk_L_34 : Cond.methodLink RL 34 yX9_as ∈ ng_G := ng_inG (i := 1008) (by decide +kernel) (by decide +kernel)
theorem lk_X9_111 : Cond.methodLink RX9 111 yX9_above ∈ ng_G := ng_inG (i := 1012) (by decide +kernel) (by decide +kernel)
theorem lk_L_38 : Cond.methodLink RL 38 yX9_has ∈ ng_G := ng_inG (i := 1016) (by decide +kernel) (by decide +kernel)
theorem lk_L_43 : Cond.methodLink RL 43 yX9_buyers ∈ ng_G := ng_inG (i := 1020) (by decide +kernel) (by decide +kernel)
theorem lk_X9_115 : Cond.methodLink RX9 115 yX9_isSheet ∈ ng_G := ng_inG (i := 1024) (by decide +kernel) (by decide +kernel)
theorem lk_L_48 : Cond.methodLink RL 48 yX9_at ∈ ng_G := ng_inG (i := 1028) (by decide +kernel) (by decide +kernel)
theorem lk_X9_129 : Cond.methodLink RX9 129 yX9_worthOf ∈ ng_G := ng_inG (i := 1032) (by decide +kernel) (by decide +kernel)
theorem lk_X9_123 : Cond.methodLink RX9 123 yX9_plainWorth ∈ ng_G := ng_inG (i := 1036) (by decide +kernel) (by decide +kernel)
theorem lk_X9_119 : Cond.methodLink RX9 119 yX9_given ∈ ng_G := ng_inG (i := 1040) (by decide +kernel) (by decide +kernel)
theorem lk_X9_199 : Cond.methodLink RX9 199 yX9_worked ∈ ng_G := ng_inG (i := 1044) (by decide +kernel) (by decide +kernel)
theorem lk_X9_196 : Cond.methodLink RX9 196 yX9_done ∈ ng_G := ng_inG (i := 1048) (by decide +kernel) (by decide +kernel)
theorem lk_X9_203 : Cond.methodLink RX9 203 yX9_held ∈ ng_G := ng_inG (i := 1052) (by decide +kernel) (by decide +kernel)
theorem lk_X9_67 : Cond.methodLink RX9 67 Lib.Math.min.name ∈ ng_G := ng_inG (i := 1055) (by decide +kernel) (by decide +kernel)
theorem lk_X9_73 : Cond.methodLink RX9 73 Lib.Math.max.name ∈ ng_G := ng_inG (i := 1056) (by decide +kernel) (by decide +kernel)
theorem lk_X9_126 : Cond.methodLink RX9 126 yX9_dueOf ∈ ng_G := ng_inG (i := 1057) (by decide +kernel) (by decide +kernel)
theorem lk_X9_135 : Cond.methodLink RX9 135 yX9_buysOf ∈ ng_G := ng_inG (i := 1061) (by decide +kernel) (by decide +kernel)
theorem lk_X9_132 : Cond.methodLink RX9 132 yX9_isKeeper ∈ ng_G := ng_inG (i := 1065) (by decide +kernel) (by decide +kernel)
theorem lk_L_55 : Cond.methodLink RL 55 yX9_feed ∈ ng_G := ng_inG (i := 1069) (by decide +kernel) (by decide +kernel)
theorem lk_L_59 : Cond.methodLink RL 59 yX9_text ∈ ng_G := ng_inG (i := 1074) (by decide +kernel) (by decide +kernel)
theorem lk_X9_190 : Cond.methodLink RX9 190 yX9_either ∈ ng_G := ng_inG (i := 1078) (by decide +kernel) (by decide +kernel)
theorem lk_X9_155 : Cond.methodLink RX9 155 yX9_both ∈ ng_G := ng_inG (i := 1082) (by decide +kernel) (by decide +kernel)
theorem lk_X9_165 : Cond.methodLink RX9 165 yX9_compared ∈ ng_G := ng_inG (i := 1086) (by decide +kernel) (by decide +kernel)
theorem lk_X9_168 : Cond.methodLink RX9 168 yX9_sum ∈ ng_G := ng_inG (i := 1090) (by decide +kernel) (by decide +kernel)
theorem lk_X9_171 : Cond.methodLink RX9 171 yX9_product ∈ ng_G := ng_inG (i := 1094) (by decide +kernel) (by decide +kernel)
theorem lk_X9_174 : Cond.methodLink RX9 174 yX9_one ∈ ng_G := ng_inG (i := 1098) (by decide +kernel) (by decide +kernel)
theorem lk_X9_148 : Cond.methodLink RX9 148 yX9_here ∈ ng_G := ng_inG (i := 1102) (by decide +kernel) (by decide +kernel)
theorem lk_X9_161 : Cond.methodLink RX9 161 yX9_codes ∈ ng_G := ng_inG (i := 1106) (by decide +kernel) (by decide +kernel)
theorem lk_X9_158 : Cond.methodLink RX9 158 yX9_takes ∈ ng_G := ng_inG (i := 1110) (by decide +kernel) (by decide +kernel)
theorem lk_X9_193 : Cond.methodLink RX9 193 yX9_nameOf ∈ ng_G := ng_inG (i := 1114) (by decide +kernel) (by decide +kernel)
theorem lk_X9_180 : Cond.methodLink RX9 180 yJ0_length_8abf5 ∈ ng_G := ng_inG (i := 1118) (by decide +kernel) (by decide +kernel)
theorem lk_J0_335 : Cond.methodLink RJ0 335 yJ0_coder_7d493 ∈ ng_G := ng_inG (i := 1122) (by decide +kernel) (by decide +kernel)
theorem lk_X9_183 : Cond.methodLink RX9 183 yJ0_charAt_5068e ∈ ng_G := ng_inG (i := 1128) (by decide +kernel) (by decide +kernel)
theorem lk_J0_492 : Cond.methodLink RJ0 492 yJ0_isLatin1_aae02 ∈ ng_G := ng_inG (i := 1132) (by decide +kernel) (by decide +kernel)
theorem lk_J0_495 : Cond.methodLink RJ0 495 yJ1_charAt_3b067 ∈ ng_G := ng_inG (i := 1136) (by decide +kernel) (by decide +kernel)
theorem lk_J1_9 : Cond.methodLink RJ1 9 yJ0_checkIndex_df160 ∈ ng_G := ng_inG (i := 1139) (by decide +kernel) (by decide +kernel)
theorem lk_J0_1059 : Cond.methodLink RJ0 1059 yJ3_checkIndex_8e157 ∈ ng_G := ng_inG (i := 1144) (by decide +kernel) (by decide +kernel)
theorem lk_J0_498 : Cond.methodLink RJ0 498 yJ2_charAt_3b067 ∈ ng_G := ng_inG (i := 1147) (by decide +kernel) (by decide +kernel)
theorem lk_J2_67 : Cond.methodLink RJ2 67 yJ2_checkIndex_2214a ∈ ng_G := ng_inG (i := 1150) (by decide +kernel) (by decide +kernel)
theorem lk_J2_48 : Cond.methodLink RJ2 48 yJ2_length_9d52b ∈ ng_G := ng_inG (i := 1153) (by decide +kernel) (by decide +kernel)
theorem lk_J2_414 : Cond.methodLink RJ2 414 yJ0_checkIndex_df160 ∈ ng_G := ng_inG (i := 1156) (by decide +kernel) (by decide +kernel)
theorem lk_J2_71 : Cond.methodLink RJ2 71 yJ2_getChar_3b067 ∈ ng_G := ng_inG (i := 1157) (by decide +kernel) (by decide +kernel)
theorem lk_L_64 : Cond.methodLink RL 64 yX9_law ∈ ng_G := ng_inG (i := 1166) (by decide +kernel) (by decide +kernel)
theorem lk_L_68 : Cond.methodLink RL 68 yX9_year ∈ ng_G := ng_inG (i := 1170) (by decide +kernel) (by decide +kernel)
theorem lk_X9_219 : Cond.methodLink RX9 219 yX9_goes ∈ ng_G := ng_inG (i := 1175) (by decide +kernel) (by decide +kernel)
theorem lk_X9_206 : Cond.methodLink RX9 206 yX9_drawn ∈ ng_G := ng_inG (i := 1179) (by decide +kernel) (by decide +kernel)
theorem lk_X9_213 : Cond.methodLink RX9 213 Lib.MathLoose.min_long.x ∈ ng_G := ng_inG (i := 1186) (by decide +kernel) (by decide +kernel)
theorem lk_X9_216 : Cond.methodLink RX9 216 Lib.MathLoose.max_long.x ∈ ng_G := ng_inG (i := 1189) (by decide +kernel) (by decide +kernel)
theorem lk_L_72 : Cond.methodLink RL 72 yX9_give ∈ ng_G := ng_inG (i := 1192) (by decide +kernel) (by decide +kernel)
theorem lk_X9_223 : Cond.methodLink RX9 223 yX9_gives ∈ ng_G := ng_inG (i := 1196) (by decide +kernel) (by decide +kernel)
theorem lk_L_76 : Cond.methodLink RL 76 yX9_life ∈ ng_G := ng_inG (i := 1200) (by decide +kernel) (by decide +kernel)
theorem lk_L_80 : Cond.methodLink RL 80 yX9_then ∈ ng_G := ng_inG (i := 1204) (by decide +kernel) (by decide +kernel)
theorem lk_X9_230 : Cond.methodLink RX9 230 yX9_isAhead ∈ ng_G := ng_inG (i := 1208) (by decide +kernel) (by decide +kernel)
theorem lk_X9_76 : Cond.methodLink RX9 76 yX9_copy ∈ ng_G := ng_inG (i := 1211) (by decide +kernel) (by decide +kernel)
theorem lk_X9_233 : Cond.methodLink RX9 233 yX9_yearsGo ∈ ng_G := ng_inG (i := 1214) (by decide +kernel) (by decide +kernel)
theorem lk_X9_237 : Cond.methodLink RX9 237 yX9_toldOf ∈ ng_G := ng_inG (i := 1218) (by decide +kernel) (by decide +kernel)
theorem lk_X9_227 : Cond.methodLink RX9 227 yX9_ends ∈ ng_G := ng_inG (i := 1222) (by decide +kernel) (by decide +kernel)
theorem lk_X9_240 : Cond.methodLink RX9 240 yX9_putBack ∈ ng_G := ng_inG (i := 1226) (by decide +kernel) (by decide +kernel)
theorem lk_L_84 : Cond.methodLink RL 84 yX9_by ∈ ng_G := ng_inG (i := 1230) (by decide +kernel) (by decide +kernel)
theorem lk_L_88 : Cond.methodLink RL 88 yX9_best ∈ ng_G := ng_inG (i := 1234) (by decide +kernel) (by decide +kernel)
theorem lk_X9_250 : Cond.methodLink RX9 250 yX9_ofBest ∈ ng_G := ng_inG (i := 1238) (by decide +kernel) (by decide +kernel)
theorem lk_X9_246 : Cond.methodLink RX9 246 yX9_findBest ∈ ng_G := ng_inG (i := 1242) (by decide +kernel) (by decide +kernel)
theorem lk_L_92 : Cond.methodLink RL 92 yX9_never ∈ ng_G := ng_inG (i := 1246) (by decide +kernel) (by decide +kernel)
theorem lk_L_96 : Cond.methodLink RL 96 yX9_costs ∈ ng_G := ng_inG (i := 1250) (by decide +kernel) (by decide +kernel)
theorem lk_L_100 : Cond.methodLink RL 100 yX9_raise ∈ ng_G := ng_inG (i := 1254) (by decide +kernel) (by decide +kernel)
theorem lk_L_104 : Cond.methodLink RL 104 yX9_back ∈ ng_G := ng_inG (i := 1258) (by decide +kernel) (by decide +kernel)
theorem lk_L_108 : Cond.methodLink RL 108 yX9_whom ∈ ng_G := ng_inG (i := 1262) (by decide +kernel) (by decide +kernel)
theorem lk_L_112 : Cond.methodLink RL 112 yX9_more ∈ ng_G := ng_inG (i := 1266) (by decide +kernel) (by decide +kernel)
theorem lk_L_116 : Cond.methodLink RL 116 yX9_rests ∈ ng_G := ng_inG (i := 1270) (by decide +kernel) (by decide +kernel)
theorem lk_L_121 : Cond.methodLink RL 121 yX9_clear ∈ ng_G := ng_inG (i := 1274) (by decide +kernel) (by decide +kernel)
theorem lk_L_125 : Cond.methodLink RL 125 yX9_seed ∈ ng_G := ng_inG (i := 1278) (by decide +kernel) (by decide +kernel)
theorem lk_L_129 : Cond.methodLink RL 129 yX9_voice ∈ ng_G := ng_inG (i := 1282) (by decide +kernel) (by decide +kernel)
theorem lk_X9_272 : Cond.methodLink RX9 272 yX9_voiced ∈ ng_G := ng_inG (i := 1286) (by decide +kernel) (by decide +kernel)
theorem lk_X9_259 : Cond.methodLink RX9 259 yX9_bodyFrom ∈ ng_G := ng_inG (i := 1290) (by decide +kernel) (by decide +kernel)
theorem lk_X9_262 : Cond.methodLink RX9 262 yX9_hasOwn ∈ ng_G := ng_inG (i := 1294) (by decide +kernel) (by decide +kernel)
theorem lk_X9_266 : Cond.methodLink RX9 266 yX9_body ∈ ng_G := ng_inG (i := 1297) (by decide +kernel) (by decide +kernel)
theorem lk_X9_269 : Cond.methodLink RX9 269 yX9_began ∈ ng_G := ng_inG (i := 1301) (by decide +kernel) (by decide +kernel)
theorem lk_L_133 : Cond.methodLink RL 133 yX9_trace ∈ ng_G := ng_inG (i := 1305) (by decide +kernel) (by decide +kernel)
theorem lk_L_137 : Cond.methodLink RL 137 yX9_sheet ∈ ng_G := ng_inG (i := 1309) (by decide +kernel) (by decide +kernel)
theorem lk_L_141 : Cond.methodLink RL 141 yX9_put ∈ ng_G := ng_inG (i := 1313) (by decide +kernel) (by decide +kernel)
theorem lk_L_145 : Cond.methodLink RL 145 yX9_move ∈ ng_G := ng_inG (i := 1317) (by decide +kernel) (by decide +kernel)
theorem lk_L_149 : Cond.methodLink RL 149 yX9_image ∈ ng_G := ng_inG (i := 1321) (by decide +kernel) (by decide +kernel)
theorem lk_L_153 : Cond.methodLink RL 153 yX9_restore ∈ ng_G := ng_inG (i := 1325) (by decide +kernel) (by decide +kernel)
theorem lk_L_157 : Cond.methodLink RL 157 yX9_tell ∈ ng_G := ng_inG (i := 1329) (by decide +kernel) (by decide +kernel)
theorem lk_L_161 : Cond.methodLink RL 161 yX9_check ∈ ng_G := ng_inG (i := 1333) (by decide +kernel) (by decide +kernel)
theorem lk_L_165 : Cond.methodLink RL 165 yX9_count ∈ ng_G := ng_inG (i := 1337) (by decide +kernel) (by decide +kernel)
theorem lk_L_169 : Cond.methodLink RL 169 yX9_told ∈ ng_G := ng_inG (i := 1341) (by decide +kernel) (by decide +kernel)
theorem fl_X0_9 : ng_FL RX0 9 0 0 := ⟨RX0, TX0, 4, rfl, by decide, ng_inG (i := 100) (by decide +kernel) (by decide +kernel), lw_X0⟩
theorem fl_X3_40 : ng_FL RX3 40 0 0 := ⟨RX0, TX0, 4, rfl, by decide, ng_inG (i := 101) (by decide +kernel) (by decide +kernel), lw_X0⟩
theorem fl_X0_21 : ng_FL RX0 21 0 1 := ⟨RX0, TX0, 4, rfl, by decide, ng_inG (i := 102) (by decide +kernel) (by decide +kernel), lw_X0⟩
theorem fp_X0_21 : ng_FP RX0 21 0 1 .int := ⟨RX0, TX0, 4, tyX0, rfl, by decide, ng_inG (i := 102) (by decide +kernel) (by decide +kernel), lw_X0, tyX0_ok, nmX0, rfl, by decide +kernel⟩
theorem fl_X3_43 : ng_FL RX3 43 0 1 := ⟨RX0, TX0, 4, rfl, by decide, ng_inG (i := 103) (by decide +kernel) (by decide +kernel), lw_X0⟩
theorem fp_X3_43 : ng_FP RX3 43 0 1 .int := ⟨RX0, TX0, 4, tyX0, rfl, by decide, ng_inG (i := 103) (by decide +kernel) (by decide +kernel), lw_X0, tyX0_ok, nmX0, rfl, by decide +kernel⟩
theorem fl_X0_15 : ng_FL RX0 15 0 2 := ⟨RX0, TX0, 4, rfl, by decide, ng_inG (i := 104) (by decide +kernel) (by decide +kernel), lw_X0⟩
theorem fl_X0_18 : ng_FL RX0 18 0 3 := ⟨RX0, TX0, 4, rfl, by decide, ng_inG (i := 105) (by decide +kernel) (by decide +kernel), lw_X0⟩
theorem fl_X3_9 : ng_FL RX3 9 3 0 := ⟨RX3, TX3, 7, rfl, by decide, ng_inG (i := 116) (by decide +kernel) (by decide +kernel), lw_X3⟩
theorem fl_X8_70 : ng_FL RX8 70 3 0 := ⟨RX3, TX3, 7, rfl, by decide, ng_inG (i := 117) (by decide +kernel) (by decide +kernel), lw_X3⟩
theorem fl_X5_54 : ng_FL RX5 54 3 0 := ⟨RX3, TX3, 7, rfl, by decide, ng_inG (i := 118) (by decide +kernel) (by decide +kernel), lw_X3⟩
theorem fl_X3_15 : ng_FL RX3 15 3 1 := ⟨RX3, TX3, 7, rfl, by decide, ng_inG (i := 119) (by decide +kernel) (by decide +kernel), lw_X3⟩
theorem fl_X6_15 : ng_FL RX6 15 3 1 := ⟨RX3, TX3, 7, rfl, by decide, ng_inG (i := 120) (by decide +kernel) (by decide +kernel), lw_X3⟩
theorem fl_X7_62 : ng_FL RX7 62 3 1 := ⟨RX3, TX3, 7, rfl, by decide, ng_inG (i := 121) (by decide +kernel) (by decide +kernel), lw_X3⟩
theorem fl_X8_105 : ng_FL RX8 105 3 1 := ⟨RX3, TX3, 7, rfl, by decide, ng_inG (i := 122) (by decide +kernel) (by decide +kernel), lw_X3⟩
theorem fl_X5_69 : ng_FL RX5 69 3 1 := ⟨RX3, TX3, 7, rfl, by decide, ng_inG (i := 123) (by decide +kernel) (by decide +kernel), lw_X3⟩
theorem fl_X3_18 : ng_FL RX3 18 3 2 := ⟨RX3, TX3, 7, rfl, by decide, ng_inG (i := 124) (by decide +kernel) (by decide +kernel), lw_X3⟩
theorem fl_X7_65 : ng_FL RX7 65 3 2 := ⟨RX3, TX3, 7, rfl, by decide, ng_inG (i := 125) (by decide +kernel) (by decide +kernel), lw_X3⟩
theorem fl_X8_108 : ng_FL RX8 108 3 2 := ⟨RX3, TX3, 7, rfl, by decide, ng_inG (i := 126) (by decide +kernel) (by decide +kernel), lw_X3⟩
theorem fl_X5_62 : ng_FL RX5 62 3 2 := ⟨RX3, TX3, 7, rfl, by decide, ng_inG (i := 127) (by decide +kernel) (by decide +kernel), lw_X3⟩
theorem fl_X3_21 : ng_FL RX3 21 3 3 := ⟨RX3, TX3, 7, rfl, by decide, ng_inG (i := 128) (by decide +kernel) (by decide +kernel), lw_X3⟩
theorem fl_X6_27 : ng_FL RX6 27 3 3 := ⟨RX3, TX3, 7, rfl, by decide, ng_inG (i := 129) (by decide +kernel) (by decide +kernel), lw_X3⟩
theorem fl_X7_68 : ng_FL RX7 68 3 3 := ⟨RX3, TX3, 7, rfl, by decide, ng_inG (i := 130) (by decide +kernel) (by decide +kernel), lw_X3⟩
theorem fl_X8_111 : ng_FL RX8 111 3 3 := ⟨RX3, TX3, 7, rfl, by decide, ng_inG (i := 131) (by decide +kernel) (by decide +kernel), lw_X3⟩
theorem fl_X5_87 : ng_FL RX5 87 3 3 := ⟨RX3, TX3, 7, rfl, by decide, ng_inG (i := 132) (by decide +kernel) (by decide +kernel), lw_X3⟩
theorem fl_X3_27 : ng_FL RX3 27 3 4 := ⟨RX3, TX3, 7, rfl, by decide, ng_inG (i := 133) (by decide +kernel) (by decide +kernel), lw_X3⟩
theorem fl_X3_31 : ng_FL RX3 31 3 5 := ⟨RX3, TX3, 7, rfl, by decide, ng_inG (i := 134) (by decide +kernel) (by decide +kernel), lw_X3⟩
theorem fl_X3_51 : ng_FL RX3 51 3 6 := ⟨RX3, TX3, 7, rfl, by decide, ng_inG (i := 135) (by decide +kernel) (by decide +kernel), lw_X3⟩
theorem fp_X3_51 : ng_FP RX3 51 3 6 .int := ⟨RX3, TX3, 7, tyX3, rfl, by decide, ng_inG (i := 135) (by decide +kernel) (by decide +kernel), lw_X3, tyX3_ok, nmX3, rfl, by decide +kernel⟩
theorem fl_X7_59 : ng_FL RX7 59 3 6 := ⟨RX3, TX3, 7, rfl, by decide, ng_inG (i := 136) (by decide +kernel) (by decide +kernel), lw_X3⟩
theorem fp_X7_59 : ng_FP RX7 59 3 6 .int := ⟨RX3, TX3, 7, tyX3, rfl, by decide, ng_inG (i := 136) (by decide +kernel) (by decide +kernel), lw_X3, tyX3_ok, nmX3, rfl, by decide +kernel⟩
theorem fl_X5_59 : ng_FL RX5 59 3 6 := ⟨RX3, TX3, 7, rfl, by decide, ng_inG (i := 137) (by decide +kernel) (by decide +kernel), lw_X3⟩
theorem fp_X5_59 : ng_FP RX5 59 3 6 .int := ⟨RX3, TX3, 7, tyX3, rfl, by decide, ng_inG (i := 137) (by decide +kernel) (by decide +kernel), lw_X3, tyX3_ok, nmX3, rfl, by decide +kernel⟩
theorem fl_X1_96 : ng_FL RX1 96 3 6 := ⟨RX3, TX3, 7, rfl, by decide, ng_inG (i := 138) (by decide +kernel) (by decide +kernel), lw_X3⟩
theorem fp_X1_96 : ng_FP RX1 96 3 6 .int := ⟨RX3, TX3, 7, tyX3, rfl, by decide, ng_inG (i := 138) (by decide +kernel) (by decide +kernel), lw_X3, tyX3_ok, nmX3, rfl, by decide +kernel⟩
theorem fl_X8_239 : ng_FL RX8 239 3 6 := ⟨RX3, TX3, 7, rfl, by decide, ng_inG (i := 139) (by decide +kernel) (by decide +kernel), lw_X3⟩
theorem fp_X8_239 : ng_FP RX8 239 3 6 .int := ⟨RX3, TX3, 7, tyX3, rfl, by decide, ng_inG (i := 139) (by decide +kernel) (by decide +kernel), lw_X3, tyX3_ok, nmX3, rfl, by decide +kernel⟩
theorem fl_X5_25 : ng_FL RX5 25 5 0 := ⟨RX5, TX5, 12, rfl, by decide, ng_inG (i := 161) (by decide +kernel) (by decide +kernel), lw_X5⟩
theorem fl_X1_92 : ng_FL RX1 92 5 0 := ⟨RX5, TX5, 12, rfl, by decide, ng_inG (i := 162) (by decide +kernel) (by decide +kernel), lw_X5⟩
theorem fl_X5_9 : ng_FL RX5 9 5 1 := ⟨RX5, TX5, 12, rfl, by decide, ng_inG (i := 163) (by decide +kernel) (by decide +kernel), lw_X5⟩
theorem fl_X7_71 : ng_FL RX7 71 5 1 := ⟨RX5, TX5, 12, rfl, by decide, ng_inG (i := 164) (by decide +kernel) (by decide +kernel), lw_X5⟩
theorem fl_X8_114 : ng_FL RX8 114 5 1 := ⟨RX5, TX5, 12, rfl, by decide, ng_inG (i := 165) (by decide +kernel) (by decide +kernel), lw_X5⟩
theorem fl_X5_15 : ng_FL RX5 15 5 2 := ⟨RX5, TX5, 12, rfl, by decide, ng_inG (i := 166) (by decide +kernel) (by decide +kernel), lw_X5⟩
theorem fl_X5_35 : ng_FL RX5 35 5 3 := ⟨RX5, TX5, 12, rfl, by decide, ng_inG (i := 167) (by decide +kernel) (by decide +kernel), lw_X5⟩
theorem fp_X5_35 : ng_FP RX5 35 5 3 .int := ⟨RX5, TX5, 12, tyX5, rfl, by decide, ng_inG (i := 167) (by decide +kernel) (by decide +kernel), lw_X5, tyX5_ok, nmX5, rfl, by decide +kernel⟩
theorem fl_X1_57 : ng_FL RX1 57 5 3 := ⟨RX5, TX5, 12, rfl, by decide, ng_inG (i := 168) (by decide +kernel) (by decide +kernel), lw_X5⟩
theorem fp_X1_57 : ng_FP RX1 57 5 3 .int := ⟨RX5, TX5, 12, tyX5, rfl, by decide, ng_inG (i := 168) (by decide +kernel) (by decide +kernel), lw_X5, tyX5_ok, nmX5, rfl, by decide +kernel⟩
theorem fl_X5_18 : ng_FL RX5 18 5 4 := ⟨RX5, TX5, 12, rfl, by decide, ng_inG (i := 169) (by decide +kernel) (by decide +kernel), lw_X5⟩
theorem fp_X5_18 : ng_FP RX5 18 5 4 .int := ⟨RX5, TX5, 12, tyX5, rfl, by decide, ng_inG (i := 169) (by decide +kernel) (by decide +kernel), lw_X5, tyX5_ok, nmX5, rfl, by decide +kernel⟩
theorem fl_X7_75 : ng_FL RX7 75 5 4 := ⟨RX5, TX5, 12, rfl, by decide, ng_inG (i := 170) (by decide +kernel) (by decide +kernel), lw_X5⟩
theorem fp_X7_75 : ng_FP RX7 75 5 4 .int := ⟨RX5, TX5, 12, tyX5, rfl, by decide, ng_inG (i := 170) (by decide +kernel) (by decide +kernel), lw_X5, tyX5_ok, nmX5, rfl, by decide +kernel⟩
theorem fl_X1_111 : ng_FL RX1 111 5 4 := ⟨RX5, TX5, 12, rfl, by decide, ng_inG (i := 171) (by decide +kernel) (by decide +kernel), lw_X5⟩
theorem fp_X1_111 : ng_FP RX1 111 5 4 .int := ⟨RX5, TX5, 12, tyX5, rfl, by decide, ng_inG (i := 171) (by decide +kernel) (by decide +kernel), lw_X5, tyX5_ok, nmX5, rfl, by decide +kernel⟩
theorem fl_X5_22 : ng_FL RX5 22 5 5 := ⟨RX5, TX5, 12, rfl, by decide, ng_inG (i := 172) (by decide +kernel) (by decide +kernel), lw_X5⟩
theorem fp_X5_22 : ng_FP RX5 22 5 5 .int := ⟨RX5, TX5, 12, tyX5, rfl, by decide, ng_inG (i := 172) (by decide +kernel) (by decide +kernel), lw_X5, tyX5_ok, nmX5, rfl, by decide +kernel⟩
theorem fl_X1_104 : ng_FL RX1 104 5 5 := ⟨RX5, TX5, 12, rfl, by decide, ng_inG (i := 173) (by decide +kernel) (by decide +kernel), lw_X5⟩
theorem fp_X1_104 : ng_FP RX1 104 5 5 .int := ⟨RX5, TX5, 12, tyX5, rfl, by decide, ng_inG (i := 173) (by decide +kernel) (by decide +kernel), lw_X5, tyX5_ok, nmX5, rfl, by decide +kernel⟩
theorem fl_X5_38 : ng_FL RX5 38 5 6 := ⟨RX5, TX5, 12, rfl, by decide, ng_inG (i := 174) (by decide +kernel) (by decide +kernel), lw_X5⟩
theorem fp_X5_38 : ng_FP RX5 38 5 6 .int := ⟨RX5, TX5, 12, tyX5, rfl, by decide, ng_inG (i := 174) (by decide +kernel) (by decide +kernel), lw_X5, tyX5_ok, nmX5, rfl, by decide +kernel⟩
theorem fl_X1_39 : ng_FL RX1 39 5 6 := ⟨RX5, TX5, 12, rfl, by decide, ng_inG (i := 175) (by decide +kernel) (by decide +kernel), lw_X5⟩
theorem fp_X1_39 : ng_FP RX1 39 5 6 .int := ⟨RX5, TX5, 12, tyX5, rfl, by decide, ng_inG (i := 175) (by decide +kernel) (by decide +kernel), lw_X5, tyX5_ok, nmX5, rfl, by decide +kernel⟩
theorem fl_X8_199 : ng_FL RX8 199 5 6 := ⟨RX5, TX5, 12, rfl, by decide, ng_inG (i := 176) (by decide +kernel) (by decide +kernel), lw_X5⟩
theorem fp_X8_199 : ng_FP RX8 199 5 6 .int := ⟨RX5, TX5, 12, tyX5, rfl, by decide, ng_inG (i := 176) (by decide +kernel) (by decide +kernel), lw_X5, tyX5_ok, nmX5, rfl, by decide +kernel⟩
theorem fl_X5_41 : ng_FL RX5 41 5 7 := ⟨RX5, TX5, 12, rfl, by decide, ng_inG (i := 177) (by decide +kernel) (by decide +kernel), lw_X5⟩
theorem fp_X5_41 : ng_FP RX5 41 5 7 .int := ⟨RX5, TX5, 12, tyX5, rfl, by decide, ng_inG (i := 177) (by decide +kernel) (by decide +kernel), lw_X5, tyX5_ok, nmX5, rfl, by decide +kernel⟩
theorem fl_X5_44 : ng_FL RX5 44 5 8 := ⟨RX5, TX5, 12, rfl, by decide, ng_inG (i := 178) (by decide +kernel) (by decide +kernel), lw_X5⟩
theorem fp_X5_44 : ng_FP RX5 44 5 8 .int := ⟨RX5, TX5, 12, tyX5, rfl, by decide, ng_inG (i := 178) (by decide +kernel) (by decide +kernel), lw_X5, tyX5_ok, nmX5, rfl, by decide +kernel⟩
theorem fl_X8_196 : ng_FL RX8 196 5 9 := ⟨RX5, TX5, 12, rfl, by decide, ng_inG (i := 179) (by decide +kernel) (by decide +kernel), lw_X5⟩
theorem fp_X8_196 : ng_FP RX8 196 5 9 .int := ⟨RX5, TX5, 12, tyX5, rfl, by decide, ng_inG (i := 179) (by decide +kernel) (by decide +kernel), lw_X5, tyX5_ok, nmX5, rfl, by decide +kernel⟩
theorem fl_X5_99 : ng_FL RX5 99 5 9 := ⟨RX5, TX5, 12, rfl, by decide, ng_inG (i := 180) (by decide +kernel) (by decide +kernel), lw_X5⟩
theorem fp_X5_99 : ng_FP RX5 99 5 9 .int := ⟨RX5, TX5, 12, tyX5, rfl, by decide, ng_inG (i := 180) (by decide +kernel) (by decide +kernel), lw_X5, tyX5_ok, nmX5, rfl, by decide +kernel⟩
theorem fl_X1_117 : ng_FL RX1 117 5 10 := ⟨RX5, TX5, 12, rfl, by decide, ng_inG (i := 181) (by decide +kernel) (by decide +kernel), lw_X5⟩
theorem fp_X1_117 : ng_FP RX1 117 5 10 .int := ⟨RX5, TX5, 12, tyX5, rfl, by decide, ng_inG (i := 181) (by decide +kernel) (by decide +kernel), lw_X5, tyX5_ok, nmX5, rfl, by decide +kernel⟩
theorem fl_X5_102 : ng_FL RX5 102 5 10 := ⟨RX5, TX5, 12, rfl, by decide, ng_inG (i := 182) (by decide +kernel) (by decide +kernel), lw_X5⟩
theorem fp_X5_102 : ng_FP RX5 102 5 10 .int := ⟨RX5, TX5, 12, tyX5, rfl, by decide, ng_inG (i := 182) (by decide +kernel) (by decide +kernel), lw_X5, tyX5_ok, nmX5, rfl, by decide +kernel⟩
theorem fl_X5_105 : ng_FL RX5 105 5 11 := ⟨RX5, TX5, 12, rfl, by decide, ng_inG (i := 183) (by decide +kernel) (by decide +kernel), lw_X5⟩
theorem fp_X5_105 : ng_FP RX5 105 5 11 .int := ⟨RX5, TX5, 12, tyX5, rfl, by decide, ng_inG (i := 183) (by decide +kernel) (by decide +kernel), lw_X5, tyX5_ok, nmX5, rfl, by decide +kernel⟩
theorem fl_X7_12 : ng_FL RX7 12 7 0 := ⟨RX7, TX7, 8, rfl, by decide, ng_inG (i := 209) (by decide +kernel) (by decide +kernel), lw_X7⟩
theorem fl_X8_21 : ng_FL RX8 21 7 0 := ⟨RX7, TX7, 8, rfl, by decide, ng_inG (i := 210) (by decide +kernel) (by decide +kernel), lw_X7⟩
theorem fl_X7_23 : ng_FL RX7 23 7 1 := ⟨RX7, TX7, 8, rfl, by decide, ng_inG (i := 211) (by decide +kernel) (by decide +kernel), lw_X7⟩
theorem fl_X8_81 : ng_FL RX8 81 7 1 := ⟨RX7, TX7, 8, rfl, by decide, ng_inG (i := 212) (by decide +kernel) (by decide +kernel), lw_X7⟩
theorem fl_X7_27 : ng_FL RX7 27 7 2 := ⟨RX7, TX7, 8, rfl, by decide, ng_inG (i := 213) (by decide +kernel) (by decide +kernel), lw_X7⟩
theorem fl_X8_158 : ng_FL RX8 158 7 2 := ⟨RX7, TX7, 8, rfl, by decide, ng_inG (i := 214) (by decide +kernel) (by decide +kernel), lw_X7⟩
theorem fl_X7_31 : ng_FL RX7 31 7 3 := ⟨RX7, TX7, 8, rfl, by decide, ng_inG (i := 215) (by decide +kernel) (by decide +kernel), lw_X7⟩
theorem fl_X8_297 : ng_FL RX8 297 7 3 := ⟨RX7, TX7, 8, rfl, by decide, ng_inG (i := 216) (by decide +kernel) (by decide +kernel), lw_X7⟩
theorem fl_X7_50 : ng_FL RX7 50 7 4 := ⟨RX7, TX7, 8, rfl, by decide, ng_inG (i := 217) (by decide +kernel) (by decide +kernel), lw_X7⟩
theorem fp_X7_50 : ng_FP RX7 50 7 4 .int := ⟨RX7, TX7, 8, tyX7, rfl, by decide, ng_inG (i := 217) (by decide +kernel) (by decide +kernel), lw_X7, tyX7_ok, nmX7, rfl, by decide +kernel⟩
theorem fl_X8_155 : ng_FL RX8 155 7 4 := ⟨RX7, TX7, 8, rfl, by decide, ng_inG (i := 218) (by decide +kernel) (by decide +kernel), lw_X7⟩
theorem fp_X8_155 : ng_FP RX8 155 7 4 .int := ⟨RX7, TX7, 8, tyX7, rfl, by decide, ng_inG (i := 218) (by decide +kernel) (by decide +kernel), lw_X7, tyX7_ok, nmX7, rfl, by decide +kernel⟩
theorem fl_X7_53 : ng_FL RX7 53 7 5 := ⟨RX7, TX7, 8, rfl, by decide, ng_inG (i := 219) (by decide +kernel) (by decide +kernel), lw_X7⟩
theorem fp_X7_53 : ng_FP RX7 53 7 5 .int := ⟨RX7, TX7, 8, tyX7, rfl, by decide, ng_inG (i := 219) (by decide +kernel) (by decide +kernel), lw_X7, tyX7_ok, nmX7, rfl, by decide +kernel⟩
theorem fl_X8_294 : ng_FL RX8 294 7 5 := ⟨RX7, TX7, 8, rfl, by decide, ng_inG (i := 220) (by decide +kernel) (by decide +kernel), lw_X7⟩
theorem fp_X8_294 : ng_FP RX8 294 7 5 .int := ⟨RX7, TX7, 8, tyX7, rfl, by decide, ng_inG (i := 220) (by decide +kernel) (by decide +kernel), lw_X7, tyX7_ok, nmX7, rfl, by decide +kernel⟩
theorem fl_X7_56 : ng_FL RX7 56 7 6 := ⟨RX7, TX7, 8, rfl, by decide, ng_inG (i := 221) (by decide +kernel) (by decide +kernel), lw_X7⟩
theorem fp_X7_56 : ng_FP RX7 56 7 6 .int := ⟨RX7, TX7, 8, tyX7, rfl, by decide, ng_inG (i := 221) (by decide +kernel) (by decide +kernel), lw_X7, tyX7_ok, nmX7, rfl, by decide +kernel⟩
theorem fl_X8_188 : ng_FL RX8 188 7 6 := ⟨RX7, TX7, 8, rfl, by decide, ng_inG (i := 222) (by decide +kernel) (by decide +kernel), lw_X7⟩
theorem fp_X8_188 : ng_FP RX8 188 7 6 .int := ⟨RX7, TX7, 8, tyX7, rfl, by decide, ng_inG (i := 222) (by decide +kernel) (by decide +kernel), lw_X7, tyX7_ok, nmX7, rfl, by decide +kernel⟩
theorem fl_X7_34 : ng_FL RX7 34 7 7 := ⟨RX7, TX7, 8, rfl, by decide, ng_inG (i := 223) (by decide +kernel) (by decide +kernel), lw_X7⟩
theorem fp_X7_34 : ng_FP RX7 34 7 7 .int := ⟨RX7, TX7, 8, tyX7, rfl, by decide, ng_inG (i := 223) (by decide +kernel) (by decide +kernel), lw_X7, tyX7_ok, nmX7, rfl, by decide +kernel⟩
theorem fl_X8_256 : ng_FL RX8 256 7 7 := ⟨RX7, TX7, 8, rfl, by decide, ng_inG (i := 224) (by decide +kernel) (by decide +kernel), lw_X7⟩
theorem fp_X8_256 : ng_FP RX8 256 7 7 .int := ⟨RX7, TX7, 8, tyX7, rfl, by decide, ng_inG (i := 224) (by decide +kernel) (by decide +kernel), lw_X7, tyX7_ok, nmX7, rfl, by decide +kernel⟩
theorem fl_X1_11 : ng_FL RX1 11 1 0 := ⟨RX1, TX1, 6, rfl, by decide, ng_inG (i := 251) (by decide +kernel) (by decide +kernel), lw_X1⟩
theorem fl_X1_27 : ng_FL RX1 27 1 1 := ⟨RX1, TX1, 6, rfl, by decide, ng_inG (i := 252) (by decide +kernel) (by decide +kernel), lw_X1⟩
theorem fl_X1_17 : ng_FL RX1 17 1 2 := ⟨RX1, TX1, 6, rfl, by decide, ng_inG (i := 253) (by decide +kernel) (by decide +kernel), lw_X1⟩
theorem fl_X1_21 : ng_FL RX1 21 1 3 := ⟨RX1, TX1, 6, rfl, by decide, ng_inG (i := 254) (by decide +kernel) (by decide +kernel), lw_X1⟩
theorem fl_X1_51 : ng_FL RX1 51 1 4 := ⟨RX1, TX1, 6, rfl, by decide, ng_inG (i := 255) (by decide +kernel) (by decide +kernel), lw_X1⟩
theorem fp_X1_51 : ng_FP RX1 51 1 4 .int := ⟨RX1, TX1, 6, tyX1, rfl, by decide, ng_inG (i := 255) (by decide +kernel) (by decide +kernel), lw_X1, tyX1_ok, nmX1, rfl, by decide +kernel⟩
theorem fl_X1_43 : ng_FL RX1 43 1 5 := ⟨RX1, TX1, 6, rfl, by decide, ng_inG (i := 256) (by decide +kernel) (by decide +kernel), lw_X1⟩
theorem fp_X1_43 : ng_FP RX1 43 1 5 .boolean := ⟨RX1, TX1, 6, tyX1, rfl, by decide, ng_inG (i := 256) (by decide +kernel) (by decide +kernel), lw_X1, tyX1_ok, nmX1, rfl, by decide +kernel⟩
theorem fl_X6_9 : ng_FL RX6 9 6 0 := ⟨RX6, TX6, 5, rfl, by decide, ng_inG (i := 276) (by decide +kernel) (by decide +kernel), lw_X6⟩
theorem fl_X8_266 : ng_FL RX8 266 6 0 := ⟨RX6, TX6, 5, rfl, by decide, ng_inG (i := 277) (by decide +kernel) (by decide +kernel), lw_X6⟩
theorem fl_X6_33 : ng_FL RX6 33 6 1 := ⟨RX6, TX6, 5, rfl, by decide, ng_inG (i := 278) (by decide +kernel) (by decide +kernel), lw_X6⟩
theorem fp_X6_33 : ng_FP RX6 33 6 1 .int := ⟨RX6, TX6, 5, tyX6, rfl, by decide, ng_inG (i := 278) (by decide +kernel) (by decide +kernel), lw_X6, tyX6_ok, nmX6, rfl, by decide +kernel⟩
theorem fl_X8_263 : ng_FL RX8 263 6 1 := ⟨RX6, TX6, 5, rfl, by decide, ng_inG (i := 279) (by decide +kernel) (by decide +kernel), lw_X6⟩
theorem fp_X8_263 : ng_FP RX8 263 6 1 .int := ⟨RX6, TX6, 5, tyX6, rfl, by decide, ng_inG (i := 279) (by decide +kernel) (by decide +kernel), lw_X6, tyX6_ok, nmX6, rfl, by decide +kernel⟩
theorem fl_X6_20 : ng_FL RX6 20 6 2 := ⟨RX6, TX6, 5, rfl, by decide, ng_inG (i := 280) (by decide +kernel) (by decide +kernel), lw_X6⟩
theorem fp_X6_20 : ng_FP RX6 20 6 2 .int := ⟨RX6, TX6, 5, tyX6, rfl, by decide, ng_inG (i := 280) (by decide +kernel) (by decide +kernel), lw_X6, tyX6_ok, nmX6, rfl, by decide +kernel⟩
theorem fl_X6_24 : ng_FL RX6 24 6 3 := ⟨RX6, TX6, 5, rfl, by decide, ng_inG (i := 281) (by decide +kernel) (by decide +kernel), lw_X6⟩
theorem fp_X6_24 : ng_FP RX6 24 6 3 .int := ⟨RX6, TX6, 5, tyX6, rfl, by decide, ng_inG (i := 281) (by decide +kernel) (by decide +kernel), lw_X6, tyX6_ok, nmX6, rfl, by decide +kernel⟩
theorem fl_X6_30 : ng_FL RX6 30 6 4 := ⟨RX6, TX6, 5, rfl, by decide, ng_inG (i := 282) (by decide +kernel) (by decide +kernel), lw_X6⟩
theorem fp_X6_30 : ng_FP RX6 30 6 4 .int := ⟨RX6, TX6, 5, tyX6, rfl, by decide, ng_inG (i := 282) (by decide +kernel) (by decide +kernel), lw_X6, tyX6_ok, nmX6, rfl, by decide +kernel⟩
theorem fl_X2_9 : ng_FL RX2 9 2 0 := ⟨RX2, TX2, 6, rfl, by decide, ng_inG (i := 300) (by decide +kernel) (by decide +kernel), lw_X2⟩
theorem fl_X8_169 : ng_FL RX8 169 2 0 := ⟨RX2, TX2, 6, rfl, by decide, ng_inG (i := 301) (by decide +kernel) (by decide +kernel), lw_X2⟩
theorem fl_X2_44 : ng_FL RX2 44 2 1 := ⟨RX2, TX2, 6, rfl, by decide, ng_inG (i := 302) (by decide +kernel) (by decide +kernel), lw_X2⟩
theorem fp_X2_44 : ng_FP RX2 44 2 1 .int := ⟨RX2, TX2, 6, tyX2, rfl, by decide, ng_inG (i := 302) (by decide +kernel) (by decide +kernel), lw_X2, tyX2_ok, nmX2, rfl, by decide +kernel⟩
theorem fl_X8_172 : ng_FL RX8 172 2 1 := ⟨RX2, TX2, 6, rfl, by decide, ng_inG (i := 303) (by decide +kernel) (by decide +kernel), lw_X2⟩
theorem fp_X8_172 : ng_FP RX8 172 2 1 .int := ⟨RX2, TX2, 6, tyX2, rfl, by decide, ng_inG (i := 303) (by decide +kernel) (by decide +kernel), lw_X2, tyX2_ok, nmX2, rfl, by decide +kernel⟩
theorem fl_X2_15 : ng_FL RX2 15 2 2 := ⟨RX2, TX2, 6, rfl, by decide, ng_inG (i := 304) (by decide +kernel) (by decide +kernel), lw_X2⟩
theorem fl_X2_32 : ng_FL RX2 32 2 3 := ⟨RX2, TX2, 6, rfl, by decide, ng_inG (i := 305) (by decide +kernel) (by decide +kernel), lw_X2⟩
theorem fp_X2_32 : ng_FP RX2 32 2 3 .int := ⟨RX2, TX2, 6, tyX2, rfl, by decide, ng_inG (i := 305) (by decide +kernel) (by decide +kernel), lw_X2, tyX2_ok, nmX2, rfl, by decide +kernel⟩
theorem fl_X2_41 : ng_FL RX2 41 2 4 := ⟨RX2, TX2, 6, rfl, by decide, ng_inG (i := 306) (by decide +kernel) (by decide +kernel), lw_X2⟩
theorem fp_X2_41 : ng_FP RX2 41 2 4 .int := ⟨RX2, TX2, 6, tyX2, rfl, by decide, ng_inG (i := 306) (by decide +kernel) (by decide +kernel), lw_X2, tyX2_ok, nmX2, rfl, by decide +kernel⟩
theorem fl_X2_18 : ng_FL RX2 18 2 5 := ⟨RX2, TX2, 6, rfl, by decide, ng_inG (i := 307) (by decide +kernel) (by decide +kernel), lw_X2⟩
theorem fp_X2_18 : ng_FP RX2 18 2 5 .int := ⟨RX2, TX2, 6, tyX2, rfl, by decide, ng_inG (i := 307) (by decide +kernel) (by decide +kernel), lw_X2, tyX2_ok, nmX2, rfl, by decide +kernel⟩
theorem fl_X4_9 : ng_FL RX4 9 4 0 := ⟨RX4, TX4, 3, rfl, by decide, ng_inG (i := 328) (by decide +kernel) (by decide +kernel), lw_X4⟩
theorem fl_X8_279 : ng_FL RX8 279 4 0 := ⟨RX4, TX4, 3, rfl, by decide, ng_inG (i := 329) (by decide +kernel) (by decide +kernel), lw_X4⟩
theorem fl_X4_15 : ng_FL RX4 15 4 1 := ⟨RX4, TX4, 3, rfl, by decide, ng_inG (i := 330) (by decide +kernel) (by decide +kernel), lw_X4⟩
theorem fp_X4_15 : ng_FP RX4 15 4 1 .int := ⟨RX4, TX4, 3, tyX4, rfl, by decide, ng_inG (i := 330) (by decide +kernel) (by decide +kernel), lw_X4, tyX4_ok, nmX4, rfl, by decide +kernel⟩
theorem fl_X8_273 : ng_FL RX8 273 4 1 := ⟨RX4, TX4, 3, rfl, by decide, ng_inG (i := 331) (by decide +kernel) (by decide +kernel), lw_X4⟩
theorem fp_X8_273 : ng_FP RX8 273 4 1 .int := ⟨RX4, TX4, 3, tyX4, rfl, by decide, ng_inG (i := 331) (by decide +kernel) (by decide +kernel), lw_X4, tyX4_ok, nmX4, rfl, by decide +kernel⟩
theorem fl_X4_23 : ng_FL RX4 23 4 2 := ⟨RX4, TX4, 3, rfl, by decide, ng_inG (i := 332) (by decide +kernel) (by decide +kernel), lw_X4⟩
theorem fp_X4_23 : ng_FP RX4 23 4 2 .int := ⟨RX4, TX4, 3, tyX4, rfl, by decide, ng_inG (i := 332) (by decide +kernel) (by decide +kernel), lw_X4, tyX4_ok, nmX4, rfl, by decide +kernel⟩
theorem fl_X8_135 : ng_FL RX8 135 4 2 := ⟨RX4, TX4, 3, rfl, by decide, ng_inG (i := 333) (by decide +kernel) (by decide +kernel), lw_X4⟩
theorem fp_X8_135 : ng_FP RX8 135 4 2 .int := ⟨RX4, TX4, 3, tyX4, rfl, by decide, ng_inG (i := 333) (by decide +kernel) (by decide +kernel), lw_X4, tyX4_ok, nmX4, rfl, by decide +kernel⟩
theorem fl_X8_12 : ng_FL RX8 12 8 0 := ⟨RX8, TX8, 8, rfl, by decide, ng_inG (i := 341) (by decide +kernel) (by decide +kernel), lw_X8⟩
theorem fl_X8_16 : ng_FL RX8 16 8 1 := ⟨RX8, TX8, 8, rfl, by decide, ng_inG (i := 342) (by decide +kernel) (by decide +kernel), lw_X8⟩
theorem fl_X8_28 : ng_FL RX8 28 8 2 := ⟨RX8, TX8, 8, rfl, by decide, ng_inG (i := 343) (by decide +kernel) (by decide +kernel), lw_X8⟩
theorem fl_X8_35 : ng_FL RX8 35 8 3 := ⟨RX8, TX8, 8, rfl, by decide, ng_inG (i := 344) (by decide +kernel) (by decide +kernel), lw_X8⟩
theorem fl_X8_42 : ng_FL RX8 42 8 4 := ⟨RX8, TX8, 8, rfl, by decide, ng_inG (i := 345) (by decide +kernel) (by decide +kernel), lw_X8⟩
theorem fl_X8_48 : ng_FL RX8 48 8 5 := ⟨RX8, TX8, 8, rfl, by decide, ng_inG (i := 346) (by decide +kernel) (by decide +kernel), lw_X8⟩
theorem fl_X8_52 : ng_FL RX8 52 8 6 := ⟨RX8, TX8, 8, rfl, by decide, ng_inG (i := 347) (by decide +kernel) (by decide +kernel), lw_X8⟩
theorem fl_X8_291 : ng_FL RX8 291 8 7 := ⟨RX8, TX8, 8, rfl, by decide, ng_inG (i := 348) (by decide +kernel) (by decide +kernel), lw_X8⟩
theorem fp_X8_291 : ng_FP RX8 291 8 7 .int := ⟨RX8, TX8, 8, tyX8, rfl, by decide, ng_inG (i := 348) (by decide +kernel) (by decide +kernel), lw_X8, tyX8_ok, nmX8, rfl, by decide +kernel⟩
theorem fs_X8_75 : Cond.fieldLink RX8 75 "NinePots" "SETTING_LOW" "[I" ∈ ng_G := ng_inG (i := 386) (by decide +kernel) (by decide +kernel)
theorem fs_X8_78 : Cond.fieldLink RX8 78 "NinePots" "SETTING_HIGH" "[I" ∈ ng_G := ng_inG (i := 388) (by decide +kernel) (by decide +kernel)
theorem fs_X8_315 : Cond.fieldLink RX8 315 "NinePots" "ABOVE" "[I" ∈ ng_G := ng_inG (i := 426) (by decide +kernel) (by decide +kernel)
theorem fs_X2_88 : Cond.fieldLink RX2 88 "NinePots$Reader" "NAMES" "[C" ∈ ng_G := ng_inG (i := 557) (by decide +kernel) (by decide +kernel)
theorem fs_X6_54 : Cond.fieldLink RX6 54 "NinePots$Voices" "BODY_OF" "[I" ∈ ng_G := ng_inG (i := 781) (by decide +kernel) (by decide +kernel)
theorem fl_X9_9 : ng_FL RX9 9 9 0 := ⟨RX9, TX9, 25, rfl, by decide, ng_inG (i := 882) (by decide +kernel) (by decide +kernel), lw_X9⟩
theorem fl_X9_13 : ng_FL RX9 13 9 1 := ⟨RX9, TX9, 25, rfl, by decide, ng_inG (i := 883) (by decide +kernel) (by decide +kernel), lw_X9⟩
theorem fl_X9_16 : ng_FL RX9 16 9 2 := ⟨RX9, TX9, 25, rfl, by decide, ng_inG (i := 884) (by decide +kernel) (by decide +kernel), lw_X9⟩
theorem fl_X9_275 : ng_FL RX9 275 9 3 := ⟨RX9, TX9, 25, rfl, by decide, ng_inG (i := 885) (by decide +kernel) (by decide +kernel), lw_X9⟩
theorem fp_X9_275 : ng_FP RX9 275 9 3 .int := ⟨RX9, TX9, 25, tyX9, rfl, by decide, ng_inG (i := 885) (by decide +kernel) (by decide +kernel), lw_X9, tyX9_ok, nmX9, rfl, by decide +kernel⟩
theorem fl_X9_19 : ng_FL RX9 19 9 4 := ⟨RX9, TX9, 25, rfl, by decide, ng_inG (i := 886) (by decide +kernel) (by decide +kernel), lw_X9⟩
theorem fl_X9_23 : ng_FL RX9 23 9 5 := ⟨RX9, TX9, 25, rfl, by decide, ng_inG (i := 887) (by decide +kernel) (by decide +kernel), lw_X9⟩
theorem fl_X9_32 : ng_FL RX9 32 9 6 := ⟨RX9, TX9, 25, rfl, by decide, ng_inG (i := 888) (by decide +kernel) (by decide +kernel), lw_X9⟩
theorem fl_X9_144 : ng_FL RX9 144 9 7 := ⟨RX9, TX9, 25, rfl, by decide, ng_inG (i := 889) (by decide +kernel) (by decide +kernel), lw_X9⟩
theorem fp_X9_144 : ng_FP RX9 144 9 7 .int := ⟨RX9, TX9, 25, tyX9, rfl, by decide, ng_inG (i := 889) (by decide +kernel) (by decide +kernel), lw_X9, tyX9_ok, nmX9, rfl, by decide +kernel⟩
theorem fl_X9_187 : ng_FL RX9 187 9 8 := ⟨RX9, TX9, 25, rfl, by decide, ng_inG (i := 890) (by decide +kernel) (by decide +kernel), lw_X9⟩
theorem fp_X9_187 : ng_FP RX9 187 9 8 .int := ⟨RX9, TX9, 25, tyX9, rfl, by decide, ng_inG (i := 890) (by decide +kernel) (by decide +kernel), lw_X9, tyX9_ok, nmX9, rfl, by decide +kernel⟩
theorem fl_X9_177 : ng_FL RX9 177 9 9 := ⟨RX9, TX9, 25, rfl, by decide, ng_inG (i := 891) (by decide +kernel) (by decide +kernel), lw_X9⟩
theorem fp_X9_177 : ng_FP RX9 177 9 9 .int := ⟨RX9, TX9, 25, tyX9, rfl, by decide, ng_inG (i := 891) (by decide +kernel) (by decide +kernel), lw_X9, tyX9_ok, nmX9, rfl, by decide +kernel⟩
theorem fl_X9_140 : ng_FL RX9 140 9 10 := ⟨RX9, TX9, 25, rfl, by decide, ng_inG (i := 892) (by decide +kernel) (by decide +kernel), lw_X9⟩
theorem fp_X9_140 : ng_FP RX9 140 9 10 .boolean := ⟨RX9, TX9, 25, tyX9, rfl, by decide, ng_inG (i := 892) (by decide +kernel) (by decide +kernel), lw_X9, tyX9_ok, nmX9, rfl, by decide +kernel⟩
theorem fl_X9_36 : ng_FL RX9 36 9 11 := ⟨RX9, TX9, 25, rfl, by decide, ng_inG (i := 893) (by decide +kernel) (by decide +kernel), lw_X9⟩
theorem fl_X9_152 : ng_FL RX9 152 9 12 := ⟨RX9, TX9, 25, rfl, by decide, ng_inG (i := 894) (by decide +kernel) (by decide +kernel), lw_X9⟩
theorem fp_X9_152 : ng_FP RX9 152 9 12 .int := ⟨RX9, TX9, 25, tyX9, rfl, by decide, ng_inG (i := 894) (by decide +kernel) (by decide +kernel), lw_X9, tyX9_ok, nmX9, rfl, by decide +kernel⟩
theorem fl_X9_39 : ng_FL RX9 39 9 13 := ⟨RX9, TX9, 25, rfl, by decide, ng_inG (i := 895) (by decide +kernel) (by decide +kernel), lw_X9⟩
theorem fl_X9_42 : ng_FL RX9 42 9 14 := ⟨RX9, TX9, 25, rfl, by decide, ng_inG (i := 896) (by decide +kernel) (by decide +kernel), lw_X9⟩
theorem fl_X9_45 : ng_FL RX9 45 9 15 := ⟨RX9, TX9, 25, rfl, by decide, ng_inG (i := 897) (by decide +kernel) (by decide +kernel), lw_X9⟩
theorem fl_X9_48 : ng_FL RX9 48 9 16 := ⟨RX9, TX9, 25, rfl, by decide, ng_inG (i := 898) (by decide +kernel) (by decide +kernel), lw_X9⟩
theorem fl_X9_243 : ng_FL RX9 243 9 17 := ⟨RX9, TX9, 25, rfl, by decide, ng_inG (i := 899) (by decide +kernel) (by decide +kernel), lw_X9⟩
theorem fp_X9_243 : ng_FP RX9 243 9 17 .int := ⟨RX9, TX9, 25, tyX9, rfl, by decide, ng_inG (i := 899) (by decide +kernel) (by decide +kernel), lw_X9, tyX9_ok, nmX9, rfl, by decide +kernel⟩
theorem fl_X9_51 : ng_FL RX9 51 9 18 := ⟨RX9, TX9, 25, rfl, by decide, ng_inG (i := 900) (by decide +kernel) (by decide +kernel), lw_X9⟩
theorem fl_X9_253 : ng_FL RX9 253 9 19 := ⟨RX9, TX9, 25, rfl, by decide, ng_inG (i := 901) (by decide +kernel) (by decide +kernel), lw_X9⟩
theorem fp_X9_253 : ng_FP RX9 253 9 19 .int := ⟨RX9, TX9, 25, tyX9, rfl, by decide, ng_inG (i := 901) (by decide +kernel) (by decide +kernel), lw_X9, tyX9_ok, nmX9, rfl, by decide +kernel⟩
theorem fl_X9_256 : ng_FL RX9 256 9 20 := ⟨RX9, TX9, 25, rfl, by decide, ng_inG (i := 902) (by decide +kernel) (by decide +kernel), lw_X9⟩
theorem fp_X9_256 : ng_FP RX9 256 9 20 .int := ⟨RX9, TX9, 25, tyX9, rfl, by decide, ng_inG (i := 902) (by decide +kernel) (by decide +kernel), lw_X9, tyX9_ok, nmX9, rfl, by decide +kernel⟩
theorem fl_X9_54 : ng_FL RX9 54 9 21 := ⟨RX9, TX9, 25, rfl, by decide, ng_inG (i := 903) (by decide +kernel) (by decide +kernel), lw_X9⟩
theorem fl_X9_57 : ng_FL RX9 57 9 22 := ⟨RX9, TX9, 25, rfl, by decide, ng_inG (i := 904) (by decide +kernel) (by decide +kernel), lw_X9⟩
theorem fl_X9_60 : ng_FL RX9 60 9 23 := ⟨RX9, TX9, 25, rfl, by decide, ng_inG (i := 905) (by decide +kernel) (by decide +kernel), lw_X9⟩
theorem fl_X9_63 : ng_FL RX9 63 9 24 := ⟨RX9, TX9, 25, rfl, by decide, ng_inG (i := 906) (by decide +kernel) (by decide +kernel), lw_X9⟩
theorem fs_J0_38 : Cond.fieldLink RJ0 38 "java/lang/String" "COMPACT_STRINGS" "Z" ∈ ng_G := ng_inG (i := 1126) (by decide +kernel) (by decide +kernel)
theorem fs_J0_1053 : Cond.fieldLink RJ0 1053 "jdk/internal/util/Preconditions" "SIOOBE_FORMATTER" "Ljava/util/function/BiFunction;" ∈ ng_G := ng_inG (i := 1142) (by decide +kernel) (by decide +kernel)
theorem fs_J2_44 : Cond.fieldLink RJ2 44 "java/lang/StringUTF16" "$assertionsDisabled" "Z" ∈ ng_G := ng_inG (i := 1160) (by decide +kernel) (by decide +kernel)
theorem fs_J2_59 : Cond.fieldLink RJ2 59 "java/lang/StringUTF16" "HI_BYTE_SHIFT" "I" ∈ ng_G := ng_inG (i := 1162) (by decide +kernel) (by decide +kernel)
theorem fs_J2_63 : Cond.fieldLink RJ2 63 "java/lang/StringUTF16" "LO_BYTE_SHIFT" "I" ∈ ng_G := ng_inG (i := 1164) (by decide +kernel) (by decide +kernel)
theorem fs_J0_9 : Cond.fieldLink RJ0 9 "java/lang/String" "value" "[B" ∈ ng_G := ng_inG (i := 1346) (by decide +kernel) (by decide +kernel)
theorem fs_J0_15 : Cond.fieldLink RJ0 15 "java/lang/String" "coder" "B" ∈ ng_G := ng_inG (i := 1347) (by decide +kernel) (by decide +kernel)
theorem kc_X8_65 : Jvm.Cond.constant RX8 65 (-1000000001) ∈ ng_G := ng_inG (i := 376) (by decide +kernel) (by decide +kernel)
theorem kc_X8_306 : Jvm.Cond.constant RX8 306 (-1000000000) ∈ ng_G := ng_inG (i := 381) (by decide +kernel) (by decide +kernel)
theorem kc_X8_101 : Jvm.Cond.constant RX8 101 (-1000000004) ∈ ng_G := ng_inG (i := 409) (by decide +kernel) (by decide +kernel)
theorem kc_X8_121 : Jvm.Cond.constant RX8 121 (-1000000005) ∈ ng_G := ng_inG (i := 428) (by decide +kernel) (by decide +kernel)
theorem kc_X8_130 : Jvm.Cond.constant RX8 130 (-1000000002) ∈ ng_G := ng_inG (i := 445) (by decide +kernel) (by decide +kernel)
theorem kc_X3_66 : Jvm.Cond.constant RX3 66 (99999) ∈ ng_G := ng_inG (i := 482) (by decide +kernel) (by decide +kernel)
theorem kc_X8_191 : Jvm.Cond.constant RX8 191 (-1000000003) ∈ ng_G := ng_inG (i := 594) (by decide +kernel) (by decide +kernel)
theorem kc_X5_108 : Jvm.Cond.constant RX5 108 (-99999999) ∈ ng_G := ng_inG (i := 609) (by decide +kernel) (by decide +kernel)
theorem kc_X5_109 : Jvm.Cond.constant RX5 109 (99999999) ∈ ng_G := ng_inG (i := 610) (by decide +kernel) (by decide +kernel)
theorem kc_X7_74 : Jvm.Cond.constant RX7 74 (1103515245) ∈ ng_G := ng_inG (i := 634) (by decide +kernel) (by decide +kernel)
theorem kc_X9_22 : Jvm.Cond.constant RX9 22 (99999999) ∈ ng_G := ng_inG (i := 877) (by decide +kernel) (by decide +kernel)
theorem kc_X9_91 : Jvm.Cond.constant RX9 91 (-1000000001) ∈ ng_G := ng_inG (i := 973) (by decide +kernel) (by decide +kernel)
theorem kc_X9_66 : Jvm.Cond.constant RX9 66 (-1000000000) ∈ ng_G := ng_inG (i := 978) (by decide +kernel) (by decide +kernel)
theorem kc_X9_96 : Jvm.Cond.constant RX9 96 (-99999999) ∈ ng_G := ng_inG (i := 983) (by decide +kernel) (by decide +kernel)
theorem kc_X9_100 : Jvm.Cond.constant RX9 100 (-1000000004) ∈ ng_G := ng_inG (i := 991) (by decide +kernel) (by decide +kernel)
theorem kc_X9_114 : Jvm.Cond.constant RX9 114 (-1000000005) ∈ ng_G := ng_inG (i := 1015) (by decide +kernel) (by decide +kernel)
theorem kc_X9_118 : Jvm.Cond.constant RX9 118 (-1000000002) ∈ ng_G := ng_inG (i := 1027) (by decide +kernel) (by decide +kernel)
theorem kc_X9_202 : Jvm.Cond.constant RX9 202 (99999) ∈ ng_G := ng_inG (i := 1051) (by decide +kernel) (by decide +kernel)
theorem kc_X9_138 : Jvm.Cond.constantLong RX9 138 (255) ∈ ng_G := ng_inG (i := 1073) (by decide +kernel) (by decide +kernel)
theorem kc_X9_218 : Jvm.Cond.constant RX9 218 (-1000000003) ∈ ng_G := ng_inG (i := 1174) (by decide +kernel) (by decide +kernel)
theorem kc_X9_226 : Jvm.Cond.constant RX9 226 (1103515245) ∈ ng_G := ng_inG (i := 1183) (by decide +kernel) (by decide +kernel)
theorem kc_X9_209 : Jvm.Cond.constantLong RX9 209 (-99999999) ∈ ng_G := ng_inG (i := 1184) (by decide +kernel) (by decide +kernel)
theorem kc_X9_211 : Jvm.Cond.constantLong RX9 211 (99999999) ∈ ng_G := ng_inG (i := 1185) (by decide +kernel) (by decide +kernel)
theorem kc_L_49 : Jvm.Cond.constantLong RL 49 (4294967295) ∈ ng_G := ng_inG (i := 1345) (by decide +kernel) (by decide +kernel)
theorem mms_max : Cond.static Lib.Math.max.name ∈ ng_G := ng_inG (i := 490) (by decide +kernel) (by decide +kernel)
theorem mmc_max : Cond.code Lib.Math.max.name Lib.Math.max.code 2 (some .int) ∈ ng_G := ng_inG (i := 491) (by decide +kernel) (by decide +kernel)
theorem mms_min : Cond.static Lib.Math.min.name ∈ ng_G := ng_inG (i := 487) (by decide +kernel) (by decide +kernel)
theorem mmc_min : Cond.code Lib.Math.min.name Lib.Math.min.code 2 (some .int) ∈ ng_G := ng_inG (i := 488) (by decide +kernel) (by decide +kernel)
theorem mms_maxl : Cond.static Lib.MathLoose.max_long.x ∈ ng_G := ng_inG (i := 1190) (by decide +kernel) (by decide +kernel)
theorem mmc_maxl : Cond.code Lib.MathLoose.max_long.x Lib.MathLoose.max_long.code 4 (some .long) ∈ ng_G := ng_inG (i := 1191) (by decide +kernel) (by decide +kernel)
theorem mms_minl : Cond.static Lib.MathLoose.min_long.x ∈ ng_G := ng_inG (i := 1187) (by decide +kernel) (by decide +kernel)
theorem mmc_minl : Cond.code Lib.MathLoose.min_long.x Lib.MathLoose.min_long.code 4 (some .long) ∈ ng_G := ng_inG (i := 1188) (by decide +kernel) (by decide +kernel)
theorem mac_n : Cond.native arraycopyName ∈ ng_G := ng_inG (i := 528) (by decide +kernel) (by decide +kernel)
theorem mac_s : Cond.static arraycopyName ∈ ng_G := ng_inG (i := 527) (by decide +kernel) (by decide +kernel)
