def vG (sc : List (Nat × Nat × (Nat → Int32))) : se_G := (vCl, vW, vA, vS, vN, sc)
theorem vok (sc : List (Nat × Nat × (Nat → Int32))) : se_ok (vG sc) := by
  refine ⟨fun w hw => (List.mem_filter.mp hw).2, fun w hw s U hW hZ => ?_⟩
  rcases List.mem_append.mp hw with hw | hw
  · simp only [vN1, List.mem_cons, List.not_mem_nil, or_false] at hw
    rcases hw with rfl | rfl | rfl | rfl | rfl | rfl | rfl | rfl | rfl | rfl | rfl | rfl | rfl
    · exact va_AO.moved hW.alike hZ
    · exact va_Nw.warmM hW hZ
    · exact va_AO.moved hW.alike hZ
    · exact se_warmC hW hZ
    · exact va_Nw.warmD hW hZ
    · exact va_Nw.warmD hW hZ
    · exact va_Nw.warmD hW hZ
    · exact va_Nw.warmD hW hZ
    · exact va_Nw.warmD hW hZ
    · exact va_Nw.warmD hW hZ
    · exact se_warmC hW hZ
    · exact se_warmC hW hZ
    · exact se_warmC hW hZ
  · simp only [vN2, List.mem_cons, List.not_mem_nil, or_false] at hw
    rcases hw with rfl | rfl | rfl | rfl | rfl | rfl | rfl | rfl | rfl | rfl | rfl | rfl <;> exact se_warmN hW hZ
section BASE
variable {sc : List (Nat × Nat × (Nat → Int32))} {l : Launch}
theorem clK : se_cls (vG sc) 0 rK TK 6 yK := ⟨rfl, inK, tyK, nmK⟩
theorem clV : se_cls (vG sc) 1 rV TV 16 yV := ⟨rfl, inV, tyV, nmV⟩
theorem clC : se_cls (vG sc) 2 rC TC 8 yC := ⟨rfl, inC, tyC, nmC⟩
theorem clR : se_cls (vG sc) 3 rR TR 29 yR := ⟨rfl, inR, tyR, nmR⟩
theorem kC_init : se_mok (vG sc) mC_init 0 := ⟨by decide +kernel, rfl, wd_17, ⟨by decide +kernel, by decide +kernel, by decide +kernel⟩, by decide⟩
theorem kK_init : se_mok (vG sc) mK_init 0 := ⟨by decide +kernel, rfl, wd_26, ⟨by decide +kernel, by decide +kernel, by decide +kernel⟩, by decide⟩
theorem kL_vehicle : se_mokH (vG sc) mL_vehicle 4 := ⟨by decide +kernel, wd_85, ⟨by decide +kernel, by decide +kernel, by decide +kernel⟩, by decide⟩
theorem kC_vehicle : se_mok (vG sc) mC_vehicle 2 := ⟨by decide +kernel, rfl, wd_91, ⟨by decide +kernel, by decide +kernel, by decide +kernel⟩, by decide⟩
theorem kC_knownKind : se_mok (vG sc) mC_knownKind 1 := ⟨by decide +kernel, rfl, wd_95, ⟨by decide +kernel, by decide +kernel, by decide +kernel⟩, by decide⟩
theorem kV_init : se_mok (vG sc) mV_init 4 := ⟨by decide +kernel, rfl, wd_184, ⟨by decide +kernel, by decide +kernel, by decide +kernel⟩, by decide⟩
theorem kL_list : se_mokH (vG sc) mL_list 7 := ⟨by decide +kernel, wd_248, ⟨by decide +kernel, by decide +kernel, by decide +kernel⟩, by decide⟩
theorem kC_list : se_mok (vG sc) mC_list 6 := ⟨by decide +kernel, rfl, wd_253, ⟨by decide +kernel, by decide +kernel, by decide +kernel⟩, by decide⟩
theorem kC_checkItem : se_mok (vG sc) mC_checkItem 1 := ⟨by decide +kernel, rfl, wd_256, ⟨by decide +kernel, by decide +kernel, by decide +kernel⟩, by decide⟩
theorem kC_checkRange : se_mok (vG sc) mC_checkRange 3 := ⟨by decide +kernel, rfl, wd_260, ⟨by decide +kernel, by decide +kernel, by decide +kernel⟩, by decide⟩
theorem kK_enter : se_mok (vG sc) mK_enter 5 := ⟨by decide +kernel, rfl, wd_280, ⟨by decide +kernel, by decide +kernel, by decide +kernel⟩, by decide⟩
theorem kL_unlist : se_mokH (vG sc) mL_unlist 3 := ⟨by decide +kernel, wd_283, ⟨by decide +kernel, by decide +kernel, by decide +kernel⟩, by decide⟩
theorem kC_unlist : se_mok (vG sc) mC_unlist 2 := ⟨by decide +kernel, rfl, wd_288, ⟨by decide +kernel, by decide +kernel, by decide +kernel⟩, by decide⟩
theorem kC_checkListed : se_mok (vG sc) mC_checkListed 2 := ⟨by decide +kernel, rfl, wd_291, ⟨by decide +kernel, by decide +kernel, by decide +kernel⟩, by decide⟩
theorem kL_answer : se_mokH (vG sc) mL_answer 6 := ⟨by decide +kernel, wd_310, ⟨by decide +kernel, by decide +kernel, by decide +kernel⟩, by decide⟩
theorem kC_answer : se_mok (vG sc) mC_answer 4 := ⟨by decide +kernel, rfl, wd_314, ⟨by decide +kernel, by decide +kernel, by decide +kernel⟩, by decide⟩
theorem kC_knownVehicle : se_mok (vG sc) mC_knownVehicle 1 := ⟨by decide +kernel, rfl, wd_318, ⟨by decide +kernel, by decide +kernel, by decide +kernel⟩, by decide⟩
theorem kC_checkPerson : se_mok (vG sc) mC_checkPerson 1 := ⟨by decide +kernel, rfl, wd_322, ⟨by decide +kernel, by decide +kernel, by decide +kernel⟩, by decide⟩
theorem kV_keepAnswer : se_mok (vG sc) mV_keepAnswer 4 := ⟨by decide +kernel, rfl, wd_329, ⟨by decide +kernel, by decide +kernel, by decide +kernel⟩, by decide⟩
theorem kK_isWithin : se_mok (vG sc) mK_isWithin 2 := ⟨by decide +kernel, rfl, wd_333, ⟨by decide +kernel, by decide +kernel, by decide +kernel⟩, by decide⟩
theorem kL_item : se_mokH (vG sc) mL_item 5 := ⟨by decide +kernel, wd_336, ⟨by decide +kernel, by decide +kernel, by decide +kernel⟩, by decide⟩
theorem kC_item : se_mok (vG sc) mC_item 3 := ⟨by decide +kernel, rfl, wd_340, ⟨by decide +kernel, by decide +kernel, by decide +kernel⟩, by decide⟩
theorem kC_oneOrZero : se_mok (vG sc) mC_oneOrZero 1 := ⟨by decide +kernel, rfl, wd_343, ⟨by decide +kernel, by decide +kernel, by decide +kernel⟩, by decide⟩
theorem kV_hasFailed : se_mok (vG sc) mV_hasFailed 1 := ⟨by decide +kernel, rfl, wd_347, ⟨by decide +kernel, by decide +kernel, by decide +kernel⟩, by decide⟩
theorem kV_hasSkipped : se_mok (vG sc) mV_hasSkipped 2 := ⟨by decide +kernel, rfl, wd_352, ⟨by decide +kernel, by decide +kernel, by decide +kernel⟩, by decide⟩
theorem kL_use : se_mokH (vG sc) mL_use 4 := ⟨by decide +kernel, wd_356, ⟨by decide +kernel, by decide +kernel, by decide +kernel⟩, by decide⟩
theorem kC_use : se_mok (vG sc) mC_use 2 := ⟨by decide +kernel, rfl, wd_360, ⟨by decide +kernel, by decide +kernel, by decide +kernel⟩, by decide⟩
theorem kC_canRun : se_mok (vG sc) mC_canRun 1 := ⟨by decide +kernel, rfl, wd_365, ⟨by decide +kernel, by decide +kernel, by decide +kernel⟩, by decide⟩
theorem kV_checksWeight : se_mok (vG sc) mV_checksWeight 1 := ⟨by decide +kernel, rfl, wd_369, ⟨by decide +kernel, by decide +kernel, by decide +kernel⟩, by decide⟩
theorem kC_damagesWeight : se_mok (vG sc) mC_damagesWeight 1 := ⟨by decide +kernel, rfl, wd_375, ⟨by decide +kernel, by decide +kernel, by decide +kernel⟩, by decide⟩
theorem kC_isOpenDamage : se_mok (vG sc) mC_isOpenDamage 2 := ⟨by decide +kernel, rfl, wd_379, ⟨by decide +kernel, by decide +kernel, by decide +kernel⟩, by decide⟩
theorem kV_keepUse : se_mok (vG sc) mV_keepUse 1 := ⟨by decide +kernel, rfl, wd_384, ⟨by decide +kernel, by decide +kernel, by decide +kernel⟩, by decide⟩
theorem kL_runs : se_mokH (vG sc) mL_runs 3 := ⟨by decide +kernel, wd_387, ⟨by decide +kernel, by decide +kernel, by decide +kernel⟩, by decide⟩
theorem kC_runs : se_mok (vG sc) mC_runs 1 := ⟨by decide +kernel, rfl, wd_391, ⟨by decide +kernel, by decide +kernel, by decide +kernel⟩, by decide⟩
theorem kL_reason : se_mokH (vG sc) mL_reason 4 := ⟨by decide +kernel, wd_394, ⟨by decide +kernel, by decide +kernel, by decide +kernel⟩, by decide⟩
theorem kC_reason : se_mok (vG sc) mC_reason 2 := ⟨by decide +kernel, rfl, wd_398, ⟨by decide +kernel, by decide +kernel, by decide +kernel⟩, by decide⟩
theorem kC_checkPlace : se_mok (vG sc) mC_checkPlace 1 := ⟨by decide +kernel, rfl, wd_401, ⟨by decide +kernel, by decide +kernel, by decide +kernel⟩, by decide⟩
theorem kC_damageReason : se_mok (vG sc) mC_damageReason 2 := ⟨by decide +kernel, rfl, wd_406, ⟨by decide +kernel, by decide +kernel, by decide +kernel⟩, by decide⟩
theorem kL_off : se_mokH (vG sc) mL_off 5 := ⟨by decide +kernel, wd_409, ⟨by decide +kernel, by decide +kernel, by decide +kernel⟩, by decide⟩
theorem kC_off : se_mok (vG sc) mC_off 4 := ⟨by decide +kernel, rfl, wd_413, ⟨by decide +kernel, by decide +kernel, by decide +kernel⟩, by decide⟩
theorem kL_damage : se_mokH (vG sc) mL_damage 4 := ⟨by decide +kernel, wd_418, ⟨by decide +kernel, by decide +kernel, by decide +kernel⟩, by decide⟩
theorem kC_damage : se_mok (vG sc) mC_damage 2 := ⟨by decide +kernel, rfl, wd_422, ⟨by decide +kernel, by decide +kernel, by decide +kernel⟩, by decide⟩
theorem kL_proof : se_mokH (vG sc) mL_proof 3 := ⟨by decide +kernel, wd_426, ⟨by decide +kernel, by decide +kernel, by decide +kernel⟩, by decide⟩
theorem kC_proof : se_mok (vG sc) mC_proof 2 := ⟨by decide +kernel, rfl, wd_430, ⟨by decide +kernel, by decide +kernel, by decide +kernel⟩, by decide⟩
theorem kL_need : se_mokH (vG sc) mL_need 4 := ⟨by decide +kernel, wd_435, ⟨by decide +kernel, by decide +kernel, by decide +kernel⟩, by decide⟩
theorem kC_need : se_mok (vG sc) mC_need 3 := ⟨by decide +kernel, rfl, wd_439, ⟨by decide +kernel, by decide +kernel, by decide +kernel⟩, by decide⟩
theorem kC_checkThing : se_mok (vG sc) mC_checkThing 1 := ⟨by decide +kernel, rfl, wd_442, ⟨by decide +kernel, by decide +kernel, by decide +kernel⟩, by decide⟩
theorem kL_put : se_mokH (vG sc) mL_put 5 := ⟨by decide +kernel, wd_446, ⟨by decide +kernel, by decide +kernel, by decide +kernel⟩, by decide⟩
theorem kC_put : se_mok (vG sc) mC_put 3 := ⟨by decide +kernel, rfl, wd_450, ⟨by decide +kernel, by decide +kernel, by decide +kernel⟩, by decide⟩
theorem kC_checkRoom : se_mok (vG sc) mC_checkRoom 3 := ⟨by decide +kernel, rfl, wd_453, ⟨by decide +kernel, by decide +kernel, by decide +kernel⟩, by decide⟩
theorem kL_swap : se_mokH (vG sc) mL_swap 5 := ⟨by decide +kernel, wd_457, ⟨by decide +kernel, by decide +kernel, by decide +kernel⟩, by decide⟩
theorem kC_swap : se_mok (vG sc) mC_swap 3 := ⟨by decide +kernel, rfl, wd_461, ⟨by decide +kernel, by decide +kernel, by decide +kernel⟩, by decide⟩
theorem kL_spare : se_mokH (vG sc) mL_spare 3 := ⟨by decide +kernel, wd_466, ⟨by decide +kernel, by decide +kernel, by decide +kernel⟩, by decide⟩
theorem kC_spare : se_mok (vG sc) mC_spare 1 := ⟨by decide +kernel, rfl, wd_470, ⟨by decide +kernel, by decide +kernel, by decide +kernel⟩, by decide⟩
theorem kC_bestSpare : se_mok (vG sc) mC_bestSpare 1 := ⟨by decide +kernel, rfl, wd_474, ⟨by decide +kernel, by decide +kernel, by decide +kernel⟩, by decide⟩
theorem kC_isSpareFor : se_mok (vG sc) mC_isSpareFor 2 := ⟨by decide +kernel, rfl, wd_478, ⟨by decide +kernel, by decide +kernel, by decide +kernel⟩, by decide⟩
theorem kV_lowestLacking : se_mok (vG sc) mV_lowestLacking 0 := ⟨by decide +kernel, rfl, wd_482, ⟨by decide +kernel, by decide +kernel, by decide +kernel⟩, by decide⟩
theorem kL_fuel : se_mokH (vG sc) mL_fuel 4 := ⟨by decide +kernel, wd_485, ⟨by decide +kernel, by decide +kernel, by decide +kernel⟩, by decide⟩
theorem kC_fuel : se_mok (vG sc) mC_fuel 2 := ⟨by decide +kernel, rfl, wd_489, ⟨by decide +kernel, by decide +kernel, by decide +kernel⟩, by decide⟩
theorem kL_using : se_mokH (vG sc) mL_using 4 := ⟨by decide +kernel, wd_493, ⟨by decide +kernel, by decide +kernel, by decide +kernel⟩, by decide⟩
theorem kC_using : se_mok (vG sc) mC_using 2 := ⟨by decide +kernel, rfl, wd_497, ⟨by decide +kernel, by decide +kernel, by decide +kernel⟩, by decide⟩
theorem kC_commonDivisor : se_mok (vG sc) mC_commonDivisor 2 := ⟨by decide +kernel, rfl, wd_502, ⟨by decide +kernel, by decide +kernel, by decide +kernel⟩, by decide⟩
theorem kL_key : se_mokH (vG sc) mL_key 4 := ⟨by decide +kernel, wd_508, ⟨by decide +kernel, by decide +kernel, by decide +kernel⟩, by decide⟩
theorem kC_key : se_mok (vG sc) mC_key 2 := ⟨by decide +kernel, rfl, wd_512, ⟨by decide +kernel, by decide +kernel, by decide +kernel⟩, by decide⟩
theorem kL_cost : se_mokH (vG sc) mL_cost 4 := ⟨by decide +kernel, wd_516, ⟨by decide +kernel, by decide +kernel, by decide +kernel⟩, by decide⟩
theorem kC_cost : se_mok (vG sc) mC_cost 2 := ⟨by decide +kernel, rfl, wd_520, ⟨by decide +kernel, by decide +kernel, by decide +kernel⟩, by decide⟩
theorem kL_skipped : se_mokH (vG sc) mL_skipped 3 := ⟨by decide +kernel, wd_524, ⟨by decide +kernel, by decide +kernel, by decide +kernel⟩, by decide⟩
theorem kC_skipped : se_mok (vG sc) mC_skipped 1 := ⟨by decide +kernel, rfl, wd_528, ⟨by decide +kernel, by decide +kernel, by decide +kernel⟩, by decide⟩
theorem kL_tick : se_mokH (vG sc) mL_tick 3 := ⟨by decide +kernel, wd_531, ⟨by decide +kernel, by decide +kernel, by decide +kernel⟩, by decide⟩
theorem kC_tick : se_mok (vG sc) mC_tick 1 := ⟨by decide +kernel, rfl, wd_535, ⟨by decide +kernel, by decide +kernel, by decide +kernel⟩, by decide⟩
theorem kL_vehicleAt : se_mokH (vG sc) mL_vehicleAt 4 := ⟨by decide +kernel, wd_538, ⟨by decide +kernel, by decide +kernel, by decide +kernel⟩, by decide⟩
theorem kC_vehicleAt : se_mok (vG sc) mC_vehicleAt 2 := ⟨by decide +kernel, rfl, wd_542, ⟨by decide +kernel, by decide +kernel, by decide +kernel⟩, by decide⟩
theorem kC_openDamages : se_mok (vG sc) mC_openDamages 1 := ⟨by decide +kernel, rfl, wd_546, ⟨by decide +kernel, by decide +kernel, by decide +kernel⟩, by decide⟩
theorem kR_init : se_mok (vG sc) mR_init 0 := ⟨by decide +kernel, rfl, wd_551, ⟨by decide +kernel, by decide +kernel, by decide +kernel⟩, by decide⟩
theorem kR_thrown : se_mok (vG sc) mR_thrown 0 := ⟨by decide +kernel, rfl, wd_644, ⟨by decide +kernel, by decide +kernel, by decide +kernel⟩, by decide⟩
theorem kR_vehicle : se_mok (vG sc) mR_vehicle 2 := ⟨by decide +kernel, rfl, wd_648, ⟨by decide +kernel, by decide +kernel, by decide +kernel⟩, by decide⟩
theorem kR_isKind : se_mok (vG sc) mR_isKind 1 := ⟨by decide +kernel, rfl, wd_651, ⟨by decide +kernel, by decide +kernel, by decide +kernel⟩, by decide⟩
theorem kR_in : se_mok (vG sc) mR_in 3 := ⟨by decide +kernel, rfl, wd_654, ⟨by decide +kernel, by decide +kernel, by decide +kernel⟩, by decide⟩
theorem kR_goes : se_mok (vG sc) mR_goes 3 := ⟨by decide +kernel, rfl, wd_658, ⟨by decide +kernel, by decide +kernel, by decide +kernel⟩, by decide⟩
theorem kR_list : se_mok (vG sc) mR_list 6 := ⟨by decide +kernel, rfl, wd_662, ⟨by decide +kernel, by decide +kernel, by decide +kernel⟩, by decide⟩
theorem kR_isItem : se_mok (vG sc) mR_isItem 1 := ⟨by decide +kernel, rfl, wd_665, ⟨by decide +kernel, by decide +kernel, by decide +kernel⟩, by decide⟩
theorem kR_unlist : se_mok (vG sc) mR_unlist 2 := ⟨by decide +kernel, rfl, wd_669, ⟨by decide +kernel, by decide +kernel, by decide +kernel⟩, by decide⟩
theorem kR_answer : se_mok (vG sc) mR_answer 4 := ⟨by decide +kernel, rfl, wd_673, ⟨by decide +kernel, by decide +kernel, by decide +kernel⟩, by decide⟩
theorem kR_isVehicle : se_mok (vG sc) mR_isVehicle 1 := ⟨by decide +kernel, rfl, wd_677, ⟨by decide +kernel, by decide +kernel, by decide +kernel⟩, by decide⟩
theorem kR_isPerson : se_mok (vG sc) mR_isPerson 1 := ⟨by decide +kernel, rfl, wd_680, ⟨by decide +kernel, by decide +kernel, by decide +kernel⟩, by decide⟩
theorem kR_rule : se_mok (vG sc) mR_rule 2 := ⟨by decide +kernel, rfl, wd_686, ⟨by decide +kernel, by decide +kernel, by decide +kernel⟩, by decide⟩
theorem kR_isWithin : se_mok (vG sc) mR_isWithin 3 := ⟨by decide +kernel, rfl, wd_690, ⟨by decide +kernel, by decide +kernel, by decide +kernel⟩, by decide⟩
theorem kR_item : se_mok (vG sc) mR_item 3 := ⟨by decide +kernel, rfl, wd_694, ⟨by decide +kernel, by decide +kernel, by decide +kernel⟩, by decide⟩
theorem kR_fails : se_mok (vG sc) mR_fails 2 := ⟨by decide +kernel, rfl, wd_698, ⟨by decide +kernel, by decide +kernel, by decide +kernel⟩, by decide⟩
theorem kR_isSkipped : se_mok (vG sc) mR_isSkipped 2 := ⟨by decide +kernel, rfl, wd_702, ⟨by decide +kernel, by decide +kernel, by decide +kernel⟩, by decide⟩
theorem kR_reason : se_mok (vG sc) mR_reason 2 := ⟨by decide +kernel, rfl, wd_706, ⟨by decide +kernel, by decide +kernel, by decide +kernel⟩, by decide⟩
theorem kR_reasonOf : se_mok (vG sc) mR_reasonOf 2 := ⟨by decide +kernel, rfl, wd_710, ⟨by decide +kernel, by decide +kernel, by decide +kernel⟩, by decide⟩
theorem kR_runs : se_mok (vG sc) mR_runs 1 := ⟨by decide +kernel, rfl, wd_714, ⟨by decide +kernel, by decide +kernel, by decide +kernel⟩, by decide⟩
theorem kR_isRunning : se_mok (vG sc) mR_isRunning 1 := ⟨by decide +kernel, rfl, wd_718, ⟨by decide +kernel, by decide +kernel, by decide +kernel⟩, by decide⟩
theorem kR_use : se_mok (vG sc) mR_use 2 := ⟨by decide +kernel, rfl, wd_722, ⟨by decide +kernel, by decide +kernel, by decide +kernel⟩, by decide⟩
theorem kR_off : se_mok (vG sc) mR_off 4 := ⟨by decide +kernel, rfl, wd_727, ⟨by decide +kernel, by decide +kernel, by decide +kernel⟩, by decide⟩
theorem kR_damage : se_mok (vG sc) mR_damage 2 := ⟨by decide +kernel, rfl, wd_731, ⟨by decide +kernel, by decide +kernel, by decide +kernel⟩, by decide⟩
theorem kR_proof : se_mok (vG sc) mR_proof 2 := ⟨by decide +kernel, rfl, wd_735, ⟨by decide +kernel, by decide +kernel, by decide +kernel⟩, by decide⟩
theorem kR_need : se_mok (vG sc) mR_need 3 := ⟨by decide +kernel, rfl, wd_739, ⟨by decide +kernel, by decide +kernel, by decide +kernel⟩, by decide⟩
theorem kR_isThing : se_mok (vG sc) mR_isThing 1 := ⟨by decide +kernel, rfl, wd_742, ⟨by decide +kernel, by decide +kernel, by decide +kernel⟩, by decide⟩
theorem kR_put : se_mok (vG sc) mR_put 3 := ⟨by decide +kernel, rfl, wd_746, ⟨by decide +kernel, by decide +kernel, by decide +kernel⟩, by decide⟩
theorem kR_swap : se_mok (vG sc) mR_swap 3 := ⟨by decide +kernel, rfl, wd_750, ⟨by decide +kernel, by decide +kernel, by decide +kernel⟩, by decide⟩
theorem kR_spare : se_mok (vG sc) mR_spare 1 := ⟨by decide +kernel, rfl, wd_754, ⟨by decide +kernel, by decide +kernel, by decide +kernel⟩, by decide⟩
theorem kR_fuel : se_mok (vG sc) mR_fuel 2 := ⟨by decide +kernel, rfl, wd_758, ⟨by decide +kernel, by decide +kernel, by decide +kernel⟩, by decide⟩
theorem kR_using : se_mok (vG sc) mR_using 2 := ⟨by decide +kernel, rfl, wd_763, ⟨by decide +kernel, by decide +kernel, by decide +kernel⟩, by decide⟩
theorem kR_key : se_mok (vG sc) mR_key 2 := ⟨by decide +kernel, rfl, wd_768, ⟨by decide +kernel, by decide +kernel, by decide +kernel⟩, by decide⟩
theorem kR_cost : se_mok (vG sc) mR_cost 2 := ⟨by decide +kernel, rfl, wd_772, ⟨by decide +kernel, by decide +kernel, by decide +kernel⟩, by decide⟩
theorem kR_skipped : se_mok (vG sc) mR_skipped 1 := ⟨by decide +kernel, rfl, wd_777, ⟨by decide +kernel, by decide +kernel, by decide +kernel⟩, by decide⟩
theorem kR_tick : se_mok (vG sc) mR_tick 1 := ⟨by decide +kernel, rfl, wd_781, ⟨by decide +kernel, by decide +kernel, by decide +kernel⟩, by decide⟩
theorem kR_vehicleAt : se_mok (vG sc) mR_vehicleAt 2 := ⟨by decide +kernel, rfl, wd_785, ⟨by decide +kernel, by decide +kernel, by decide +kernel⟩, by decide⟩
/-- what is known of an exception that the class makes: its class entry, its constructor's entry -/
def vEx (ik ic : Nat) (E : String) : Prop := Cond.classLink "VehicleChecks" ik E ∈ vW ∧ Cond.initialized E ∈ vW ∧ Bundle.fit E = true ∧ ∀ w ∈ vx_atS "VehicleChecks" ic E ["java/lang/RuntimeException", "java/lang/Exception"], w ∈ vW ∨ (w ∈ vN1 ∧ w.onTables = true)
theorem vth {d : Nat} {M : se_M} {pc : Nat} {L : List (Option Value)} {st : List Value} {h : se_H} {C S : Nat} {Φ : se_O → se_H → Prop} {ik ic is : Nat} {E text : String} (hE : vEx ik ic E) (hM : M.1.cls = "VehicleChecks") (hh : M.2.2.2.2 = []) (hstr : ("VehicleChecks", is, text) ∈ vS)
    (d0 : decode M.2.1 pc = .ok (.new ik, 3)) (d3 : decode M.2.1 (pc + 3) = .ok (.dup, 1)) (d4 : decode M.2.1 (pc + 4) = .ok (.ldc is, 2)) (d6 : decode M.2.1 (pc + 6) = .ok (.invokespecial ic, 3)) (d9 : decode M.2.1 (pc + 9) = .ok (.athrow, 1))
    (h8 : (st.map fun v => v.category).sum ≤ 8) (hd : 6 ≤ d) (hC : 1 ≤ C) (hS : 6 ≤ S) (hΦ : Φ (.inr E) h) : se_W (vG sc) l d M pc L st h C S Φ := by
  refine se_throwS (names := ["java/lang/RuntimeException", "java/lang/Exception"]) (text := text) (vok sc) d0 d3 d4 d6 d9 hE.2.2.1 (by decide +kernel) (by rw [hM]; exact hE.1) hE.2.1 (by rw [hM]; exact hstr) (by rw [hM]; exact fun w hw => (hE.2.2.2 w hw).imp id (fun q => ⟨List.mem_append_left _ q.1, q.2⟩)) ⟨by show 2 + 4 ≤ d; omega, by decide⟩ h8 hh hC hS hΦ
theorem exIllegalArgumentException : vEx 114 118 "java/lang/IllegalArgumentException" := ⟨wd_96, wd_7, by decide +kernel, at_IllegalArgumentException⟩
theorem exIndexOutOfBoundsException : vEx 230 234 "java/lang/IndexOutOfBoundsException" := ⟨wd_261, wd_10, by decide +kernel, at_IndexOutOfBoundsException⟩
theorem exIllegalStateException : vEx 124 128 "java/lang/IllegalStateException" := ⟨wd_292, wd_11, by decide +kernel, at_IllegalStateException⟩
theorem exUnsupportedOperationException : vEx 40 44 "java/lang/UnsupportedOperationException" := ⟨wd_165, wd_8, by decide +kernel, at_UnsupportedOperationException⟩
end BASE
