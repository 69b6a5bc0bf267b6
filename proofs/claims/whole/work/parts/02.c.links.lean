/-! ===== which word stands where: laid by program (wip/whole/gen/links.py) ===== -/
abbrev mX4_init : kx_Y := (yX4_init, cX4_init, 2, none)
abbrev mX1_init : kx_Y := (yX1_init, cX1_init, 1, none)
abbrev mX2_init : kx_Y := (yX2_init, cX2_init, 1, none)
abbrev mX0_init : kx_Y := (yX0_init, cX0_init, 2, none)
abbrev mX3_init : kx_Y := (yX3_init, cX3_init, 1, none)
abbrev mX4_write : kx_Y := (yX4_write, cX4_write, 2, some .int)
abbrev mX1_append : kx_Y := (yX1_append, cX1_append, 2, some .boolean)
abbrev mX4_wipe : kx_Y := (yX4_wipe, cX4_wipe, 2, some .int)
abbrev mX4_fault : kx_Y := (yX4_fault, cX4_fault, 1, some .int)
abbrev mX1_readLand : kx_Y := (yX1_readLand, cX1_readLand, 4, some .int)
abbrev mX2_clear : kx_Y := (yX2_clear, cX2_clear, 2, none)
abbrev mX1_letterAt : kx_Y := (yX1_letterAt, cX1_letterAt, 2, some .int)
abbrev mX1_readPerson : kx_Y := (yX1_readPerson, cX1_readPerson, 5, some .int)
abbrev mX1_digitAt : kx_Y := (yX1_digitAt, cX1_digitAt, 3, some .int)
abbrev mX2_add : kx_Y := (yX2_add, cX2_add, 4, none)
abbrev mX1_readKin : kx_Y := (yX1_readKin, cX1_readKin, 5, some .int)
abbrev mX1_isPairLeft : kx_Y := (yX1_isPairLeft, cX1_isPairLeft, 2, some .boolean)
abbrev mX2_laterStrangers : kx_Y := (yX2_laterStrangers, cX2_laterStrangers, 2, some .int)
abbrev mX2_has : kx_Y := (yX2_has, cX2_has, 2, some .boolean)
abbrev mX2_everyone : kx_Y := (yX2_everyone, cX2_everyone, 1, some .int)
abbrev mX4_hasBit : kx_Y := (yX4_hasBit, cX4_hasBit, 2, some .boolean)
abbrev mX2_makeKin : kx_Y := (yX2_makeKin, cX2_makeKin, 3, none)
abbrev mX4_land : kx_Y := (yX4_land, cX4_land, 2, some .int)
abbrev mX2_copyFrom : kx_Y := (yX2_copyFrom, cX2_copyFrom, 2, none)
abbrev mX0_forgetAll : kx_Y := (yX0_forgetAll, cX0_forgetAll, 1, none)
abbrev mX4_about : kx_Y := (yX4_about, cX4_about, 2, some .int)
abbrev mX2_allSorrow : kx_Y := (yX2_allSorrow, cX2_allSorrow, 3, some .int)
abbrev mX4_person : kx_Y := (yX4_person, cX4_person, 3, some .int)
abbrev mX2_ounces : kx_Y := (yX2_ounces, cX2_ounces, 2, some .int)
abbrev mX2_thoseToWeepFor : kx_Y := (yX2_thoseToWeepFor, cX2_thoseToWeepFor, 4, some .int)
abbrev mX2_mayWeep : kx_Y := (yX2_mayWeep, cX2_mayWeep, 3, some .boolean)
abbrev mX2_isOpen : kx_Y := (yX2_isOpen, cX2_isOpen, 2, some .boolean)
abbrev mX2_isFitFor : kx_Y := (yX2_isFitFor, cX2_isFitFor, 3, some .boolean)
abbrev mX2_areKin : kx_Y := (yX2_areKin, cX2_areKin, 3, some .boolean)
abbrev mX4_owes : kx_Y := (yX4_owes, cX4_owes, 3, some .int)
abbrev mX2_debt : kx_Y := (yX2_debt, cX2_debt, 3, some .int)
abbrev mX4_funeral : kx_Y := (yX4_funeral, cX4_funeral, 2, some .int)
abbrev mX0_remember : kx_Y := (yX0_remember, cX0_remember, 2, none)
abbrev mX0_inRing : kx_Y := (yX0_inRing, cX0_inRing, 1, some .int)
abbrev mX2_bereave : kx_Y := (yX2_bereave, cX2_bereave, 2, none)
abbrev mX4_weep : kx_Y := (yX4_weep, cX4_weep, 3, some .int)
abbrev mX2_weepFor : kx_Y := (yX2_weepFor, cX2_weepFor, 4, some .int)
abbrev mX2_settle : kx_Y := (yX2_settle, cX2_settle, 3, none)
abbrev mX4_onions : kx_Y := (yX4_onions, cX4_onions, 3, some .int)
abbrev mX2_mayUseOnions : kx_Y := (yX2_mayUseOnions, cX2_mayUseOnions, 3, some .boolean)
abbrev mX2_useOnions : kx_Y := (yX2_useOnions, cX2_useOnions, 3, none)
abbrev mX4_week : kx_Y := (yX4_week, cX4_week, 1, some .int)
abbrev mX2_passWeek : kx_Y := (yX2_passWeek, cX2_passWeek, 2, none)
abbrev mX4_undo : kx_Y := (yX4_undo, cX4_undo, 1, some .int)
abbrev mX0_takeLast : kx_Y := (yX0_takeLast, cX0_takeLast, 2, none)
abbrev mX4_served : kx_Y := (yX4_served, cX4_served, 2, some .int)
abbrev mX2_unbereaved : kx_Y := (yX2_unbereaved, cX2_unbereaved, 1, some .int)
abbrev mX3_search : kx_Y := (yX3_search, cX3_search, 4, some .int)
abbrev mX3_give : kx_Y := (yX3_give, cX3_give, 10, none)
abbrev mX3_compare : kx_Y := (yX3_compare, cX3_compare, 4, none)
abbrev mX4_nobody : kx_Y := (yX4_nobody, cX4_nobody, 2, some .int)
abbrev mX2_unweptBits : kx_Y := (yX2_unweptBits, cX2_unweptBits, 3, some .int)
abbrev mX2_kinToAllBits : kx_Y := (yX2_kinToAllBits, cX2_kinToAllBits, 3, some .int)
abbrev mX4_till : kx_Y := (yX4_till, cX4_till, 4, some .int)
abbrev mX4_net : kx_Y := (yX4_net, cX4_net, 4, some .int)
abbrev mX4_ring : kx_Y := (yX4_ring, cX4_ring, 3, some .int)
abbrev mX2_reachedByDebts : kx_Y := (yX2_reachedByDebts, cX2_reachedByDebts, 5, some .int)
abbrev mX2_creditors : kx_Y := (yX2_creditors, cX2_creditors, 4, some .int)
abbrev mX4_share : kx_Y := (yX4_share, cX4_share, 9, some .int)
abbrev mX4_fraction : kx_Y := (yX4_fraction, cX4_fraction, 7, some .int)
abbrev mX4_factorial : kx_Y := (yX4_factorial, cX4_factorial, 1, some .int)
abbrev mX4_gain : kx_Y := (yX4_gain, cX4_gain, 4, some .int)
abbrev mX4_weighed : kx_Y := (yX4_weighed, cX4_weighed, 8, some .int)
abbrev mX4_weight : kx_Y := (yX4_weight, cX4_weight, 5, some .int)
abbrev mX4_whose : kx_Y := (yX4_whose, cX4_whose, 4, some .int)
abbrev mX4_rests : kx_Y := (yX4_rests, cX4_rests, 11, some .int)
abbrev mX4_isAtRest : kx_Y := (yX4_isAtRest, cX4_isAtRest, 7, some .boolean)
abbrev mX4_gotByOne : kx_Y := (yX4_gotByOne, cX4_gotByOne, 4, some .int)
abbrev mX4_oneWeeps : kx_Y := (yX4_oneWeeps, cX4_oneWeeps, 4, some .boolean)
abbrev mX4_got : kx_Y := (yX4_got, cX4_got, 3, some .int)
abbrev mX4_gotByOther : kx_Y := (yX4_gotByOther, cX4_gotByOther, 5, some .int)
abbrev mX4_chance : kx_Y := (yX4_chance, cX4_chance, 8, some .int)
abbrev mX4_allServed : kx_Y := (yX4_allServed, cX4_allServed, 2, some .boolean)
abbrev mX4_power : kx_Y := (yX4_power, cX4_power, 4, some .int)
abbrev mX4_seed : kx_Y := (yX4_seed, cX4_seed, 5, some .long)
abbrev mX4_years : kx_Y := (yX4_years, cX4_years, 5, some .int)
abbrev mX4_keep : kx_Y := (yX4_keep, cX4_keep, 2, some .int)
abbrev mX4_again : kx_Y := (yX4_again, cX4_again, 2, some .int)
abbrev mX5_init : kx_Y := (yX5_init, cX5_init, 1, none)
abbrev mX5_write : kx_Y := (yX5_write, cX5_write, 2, some .int)
abbrev mX5_in : kx_Y := (yX5_in, cX5_in, 6, some .boolean)
abbrev mX5_wipe : kx_Y := (yX5_wipe, cX5_wipe, 2, some .int)
abbrev mX5_fault : kx_Y := (yX5_fault, cX5_fault, 1, some .int)
abbrev mX5_readLand : kx_Y := (yX5_readLand, cX5_readLand, 1, some .int)
abbrev mX5_readPart : kx_Y := (yX5_readPart, cX5_readPart, 2, some .boolean)
abbrev mX5_readPerson : kx_Y := (yX5_readPerson, cX5_readPerson, 4, some .boolean)
abbrev mX5_figure : kx_Y := (yX5_figure, cX5_figure, 3, some .int)
abbrev mX5_arePairs : kx_Y := (yX5_arePairs, cX5_arePairs, 3, some .boolean)
abbrev mX5_pairsOf : kx_Y := (yX5_pairsOf, cX5_pairsOf, 4, some .int)
abbrev mX5_has : kx_Y := (yX5_has, cX5_has, 2, some .boolean)
abbrev mX5_readKin : kx_Y := (yX5_readKin, cX5_readKin, 3, some .boolean)
abbrev mX5_land : kx_Y := (yX5_land, cX5_land, 2, some .int)
abbrev mX5_about : kx_Y := (yX5_about, cX5_about, 4, some .int)
abbrev mX5_person : kx_Y := (yX5_person, cX5_person, 3, some .int)
abbrev mX5_noPerson : kx_Y := (yX5_noPerson, cX5_noPerson, 2, some .boolean)
abbrev mX5_ouncesOf : kx_Y := (yX5_ouncesOf, cX5_ouncesOf, 5, some .int)
abbrev mX5_mayFor : kx_Y := (yX5_mayFor, cX5_mayFor, 4, some .int)
abbrev mX5_mayWeep : kx_Y := (yX5_mayWeep, cX5_mayWeep, 4, some .boolean)
abbrev mX5_isFree : kx_Y := (yX5_isFree, cX5_isFree, 4, some .boolean)
abbrev mX5_owes : kx_Y := (yX5_owes, cX5_owes, 3, some .int)
abbrev mX5_funeral : kx_Y := (yX5_funeral, cX5_funeral, 2, some .int)
abbrev mX5_note : kx_Y := (yX5_note, cX5_note, 2, none)
abbrev mX5_open : kx_Y := (yX5_open, cX5_open, 3, none)
abbrev mX5_many : kx_Y := (yX5_many, cX5_many, 3, some .int)
abbrev mX5_weep : kx_Y := (yX5_weep, cX5_weep, 3, some .int)
abbrev mX5_goWeep : kx_Y := (yX5_goWeep, cX5_goWeep, 5, some .int)
abbrev mX5_close : kx_Y := (yX5_close, cX5_close, 4, none)
abbrev mX5_onions : kx_Y := (yX5_onions, cX5_onions, 3, some .int)
abbrev mX5_week : kx_Y := (yX5_week, cX5_week, 1, some .int)
abbrev mX5_goWeek : kx_Y := (yX5_goWeek, cX5_goWeek, 3, none)
abbrev mX5_undo : kx_Y := (yX5_undo, cX5_undo, 2, some .int)
abbrev mX5_served : kx_Y := (yX5_served, cX5_served, 2, some .int)
abbrev mX5_everyone : kx_Y := (yX5_everyone, cX5_everyone, 1, some .int)
abbrev mX5_findServed : kx_Y := (yX5_findServed, cX5_findServed, 15, none)
abbrev mX5_power : kx_Y := (yX5_power, cX5_power, 4, some .int)
abbrev mX5_nobody : kx_Y := (yX5_nobody, cX5_nobody, 6, some .int)
abbrev mX5_till : kx_Y := (yX5_till, cX5_till, 4, some .int)
abbrev mX5_begin : kx_Y := (yX5_begin, cX5_begin, 2, none)
abbrev mX5_net : kx_Y := (yX5_net, cX5_net, 4, some .int)
abbrev mX5_ring : kx_Y := (yX5_ring, cX5_ring, 8, some .int)
abbrev mX5_share : kx_Y := (yX5_share, cX5_share, 8, some .int)
abbrev mX5_orders : kx_Y := (yX5_orders, cX5_orders, 3, some .int)
abbrev mX5_fraction : kx_Y := (yX5_fraction, cX5_fraction, 4, some .int)
abbrev mX5_divisor : kx_Y := (yX5_divisor, cX5_divisor, 5, some .int)
abbrev mX5_weighed : kx_Y := (yX5_weighed, cX5_weighed, 10, some .int)
abbrev mX5_whose : kx_Y := (yX5_whose, cX5_whose, 4, some .int)
abbrev mX5_rests : kx_Y := (yX5_rests, cX5_rests, 5, some .int)
abbrev mX5_findRests : kx_Y := (yX5_findRests, cX5_findRests, 10, none)
abbrev mX5_gainOf : kx_Y := (yX5_gainOf, cX5_gainOf, 11, some .int)
abbrev mX5_chance : kx_Y := (yX5_chance, cX5_chance, 9, some .int)
abbrev mX5_seed : kx_Y := (yX5_seed, cX5_seed, 5, some .long)
abbrev mX5_years : kx_Y := (yX5_years, cX5_years, 7, some .int)
abbrev mX5_keep : kx_Y := (yX5_keep, cX5_keep, 3, some .int)
abbrev mX5_again : kx_Y := (yX5_again, cX5_again, 3, some .int)
/-- a class of the worlds: its row, its fields' words -/
theorem kc_in0 : ∀ w ∈ u_ws RX0 TX0 3, w ∈ kx_tbl := by
  have h : ∀ w ∈ u_ws RX0 TX0 3, w ∈ lw_tbl := by decide +kernel
  have g : ∀ w ∈ u_ws RX0 TX0 3, goodWord w = true := by decide +kernel
  exact fun w hw => kx_in (h w hw) (g w hw)
theorem kc_0 : kx_cls 0 RX0 TX0 3 := ⟨rfl, kc_in0, tyX0, tyX0_ok, nmX0⟩
theorem kc_in1 : ∀ w ∈ u_ws RX1 TX1 3, w ∈ kx_tbl := by
  have h : ∀ w ∈ u_ws RX1 TX1 3, w ∈ lw_tbl := by decide +kernel
  have g : ∀ w ∈ u_ws RX1 TX1 3, goodWord w = true := by decide +kernel
  exact fun w hw => kx_in (h w hw) (g w hw)
theorem kc_1 : kx_cls 1 RX1 TX1 3 := ⟨rfl, kc_in1, tyX1, tyX1_ok, nmX1⟩
theorem kc_in2 : ∀ w ∈ u_ws RX2 TX2 9, w ∈ kx_tbl := by
  have h : ∀ w ∈ u_ws RX2 TX2 9, w ∈ lw_tbl := by decide +kernel
  have g : ∀ w ∈ u_ws RX2 TX2 9, goodWord w = true := by decide +kernel
  exact fun w hw => kx_in (h w hw) (g w hw)
theorem kc_2 : kx_cls 2 RX2 TX2 9 := ⟨rfl, kc_in2, tyX2, tyX2_ok, nmX2⟩
theorem kc_in3 : ∀ w ∈ u_ws RX3 TX3 4, w ∈ kx_tbl := by
  have h : ∀ w ∈ u_ws RX3 TX3 4, w ∈ lw_tbl := by decide +kernel
  have g : ∀ w ∈ u_ws RX3 TX3 4, goodWord w = true := by decide +kernel
  exact fun w hw => kx_in (h w hw) (g w hw)
theorem kc_3 : kx_cls 3 RX3 TX3 4 := ⟨rfl, kc_in3, tyX3, tyX3_ok, nmX3⟩
theorem kc_in4 : ∀ w ∈ u_ws RX4 TX4 8, w ∈ kx_tbl := by
  have h : ∀ w ∈ u_ws RX4 TX4 8, w ∈ lw_tbl := by decide +kernel
  have g : ∀ w ∈ u_ws RX4 TX4 8, goodWord w = true := by decide +kernel
  exact fun w hw => kx_in (h w hw) (g w hw)
theorem kc_4 : kx_cls 4 RX4 TX4 8 := ⟨rfl, kc_in4, tyX4, tyX4_ok, nmX4⟩
theorem kc_in5 : ∀ w ∈ u_ws RX5 TX5 22, w ∈ kx_tbl := by
  have h : ∀ w ∈ u_ws RX5 TX5 22, w ∈ lw_tbl := by decide +kernel
  have g : ∀ w ∈ u_ws RX5 TX5 22, goodWord w = true := by decide +kernel
  exact fun w hw => kx_in (h w hw) (g w hw)
theorem kc_5 : kx_cls 5 RX5 TX5 22 := ⟨rfl, kc_in5, tyX5, tyX5_ok, nmX5⟩
theorem wi_RL : Cond.initialized RL ∈ kx_tbl := kx_in (List.mem_of_getElem? (i := 33) (by decide +kernel)) (by decide +kernel)
theorem wi_RX4 : Cond.initialized RX4 ∈ kx_tbl := kx_in (List.mem_of_getElem? (i := 34) (by decide +kernel)) (by decide +kernel)
theorem wi_RX1 : Cond.initialized RX1 ∈ kx_tbl := kx_in (List.mem_of_getElem? (i := 35) (by decide +kernel)) (by decide +kernel)
theorem wi_RX2 : Cond.initialized RX2 ∈ kx_tbl := kx_in (List.mem_of_getElem? (i := 36) (by decide +kernel)) (by decide +kernel)
theorem wi_RX0 : Cond.initialized RX0 ∈ kx_tbl := kx_in (List.mem_of_getElem? (i := 37) (by decide +kernel)) (by decide +kernel)
theorem wi_RX3 : Cond.initialized RX3 ∈ kx_tbl := kx_in (List.mem_of_getElem? (i := 38) (by decide +kernel)) (by decide +kernel)
theorem wi_RX5 : Cond.initialized RX5 ∈ kx_tbl := kx_in (List.mem_of_getElem? (i := 39) (by decide +kernel)) (by decide +kernel)
theorem wi_sys : Cond.initialized "java/lang/System" ∈ kx_tbl := kx_in (List.mem_of_getElem? (i := 40) (by decide +kernel)) (by decide +kernel)
theorem wc_X4_init : Cond.code mX4_init.1 mX4_init.2.1 mX4_init.2.2.1 mX4_init.2.2.2 ∈ kx_tbl := kx_in (List.mem_of_getElem? (i := 47) (by decide +kernel)) (by decide +kernel)
theorem wm_X4_init : Cond.instanceMethod yX4_init ∈ kx_tbl := kx_in (List.mem_of_getElem? (i := 46) (by decide +kernel)) (by decide +kernel)
theorem wc_X1_init : Cond.code mX1_init.1 mX1_init.2.1 mX1_init.2.2.1 mX1_init.2.2.2 ∈ kx_tbl := kx_in (List.mem_of_getElem? (i := 55) (by decide +kernel)) (by decide +kernel)
theorem wm_X1_init : Cond.instanceMethod yX1_init ∈ kx_tbl := kx_in (List.mem_of_getElem? (i := 54) (by decide +kernel)) (by decide +kernel)
theorem wc_X2_init : Cond.code mX2_init.1 mX2_init.2.1 mX2_init.2.2.1 mX2_init.2.2.2 ∈ kx_tbl := kx_in (List.mem_of_getElem? (i := 61) (by decide +kernel)) (by decide +kernel)
theorem wm_X2_init : Cond.instanceMethod yX2_init ∈ kx_tbl := kx_in (List.mem_of_getElem? (i := 60) (by decide +kernel)) (by decide +kernel)
theorem wc_X0_init : Cond.code mX0_init.1 mX0_init.2.1 mX0_init.2.2.1 mX0_init.2.2.2 ∈ kx_tbl := kx_in (List.mem_of_getElem? (i := 119) (by decide +kernel)) (by decide +kernel)
theorem wm_X0_init : Cond.instanceMethod yX0_init ∈ kx_tbl := kx_in (List.mem_of_getElem? (i := 118) (by decide +kernel)) (by decide +kernel)
theorem wc_X3_init : Cond.code mX3_init.1 mX3_init.2.1 mX3_init.2.2.1 mX3_init.2.2.2 ∈ kx_tbl := kx_in (List.mem_of_getElem? (i := 139) (by decide +kernel)) (by decide +kernel)
theorem wm_X3_init : Cond.instanceMethod yX3_init ∈ kx_tbl := kx_in (List.mem_of_getElem? (i := 138) (by decide +kernel)) (by decide +kernel)
theorem wc_X4_write : Cond.code mX4_write.1 mX4_write.2.1 mX4_write.2.2.1 mX4_write.2.2.2 ∈ kx_tbl := kx_in (List.mem_of_getElem? (i := 186) (by decide +kernel)) (by decide +kernel)
theorem wm_X4_write : Cond.instanceMethod yX4_write ∈ kx_tbl := kx_in (List.mem_of_getElem? (i := 184) (by decide +kernel)) (by decide +kernel)
theorem ww_X4_write : Cond.selects yX4_write.cls yX4_write yX4_write ∈ kx_tbl := kx_in (List.mem_of_getElem? (i := 185) (by decide +kernel)) (by decide +kernel)
theorem wc_X1_append : Cond.code mX1_append.1 mX1_append.2.1 mX1_append.2.2.1 mX1_append.2.2.2 ∈ kx_tbl := kx_in (List.mem_of_getElem? (i := 190) (by decide +kernel)) (by decide +kernel)
theorem wm_X1_append : Cond.instanceMethod yX1_append ∈ kx_tbl := kx_in (List.mem_of_getElem? (i := 188) (by decide +kernel)) (by decide +kernel)
theorem ww_X1_append : Cond.selects yX1_append.cls yX1_append yX1_append ∈ kx_tbl := kx_in (List.mem_of_getElem? (i := 189) (by decide +kernel)) (by decide +kernel)
theorem wc_X4_wipe : Cond.code mX4_wipe.1 mX4_wipe.2.1 mX4_wipe.2.2.1 mX4_wipe.2.2.2 ∈ kx_tbl := kx_in (List.mem_of_getElem? (i := 194) (by decide +kernel)) (by decide +kernel)
theorem wm_X4_wipe : Cond.instanceMethod yX4_wipe ∈ kx_tbl := kx_in (List.mem_of_getElem? (i := 192) (by decide +kernel)) (by decide +kernel)
theorem ww_X4_wipe : Cond.selects yX4_wipe.cls yX4_wipe yX4_wipe ∈ kx_tbl := kx_in (List.mem_of_getElem? (i := 193) (by decide +kernel)) (by decide +kernel)
theorem wc_X4_fault : Cond.code mX4_fault.1 mX4_fault.2.1 mX4_fault.2.2.1 mX4_fault.2.2.2 ∈ kx_tbl := kx_in (List.mem_of_getElem? (i := 198) (by decide +kernel)) (by decide +kernel)
theorem wm_X4_fault : Cond.instanceMethod yX4_fault ∈ kx_tbl := kx_in (List.mem_of_getElem? (i := 196) (by decide +kernel)) (by decide +kernel)
theorem ww_X4_fault : Cond.selects yX4_fault.cls yX4_fault yX4_fault ∈ kx_tbl := kx_in (List.mem_of_getElem? (i := 197) (by decide +kernel)) (by decide +kernel)
theorem wc_X1_readLand : Cond.code mX1_readLand.1 mX1_readLand.2.1 mX1_readLand.2.2.1 mX1_readLand.2.2.2 ∈ kx_tbl := kx_in (List.mem_of_getElem? (i := 202) (by decide +kernel)) (by decide +kernel)
theorem wm_X1_readLand : Cond.instanceMethod yX1_readLand ∈ kx_tbl := kx_in (List.mem_of_getElem? (i := 200) (by decide +kernel)) (by decide +kernel)
theorem ww_X1_readLand : Cond.selects yX1_readLand.cls yX1_readLand yX1_readLand ∈ kx_tbl := kx_in (List.mem_of_getElem? (i := 201) (by decide +kernel)) (by decide +kernel)
theorem wc_X2_clear : Cond.code mX2_clear.1 mX2_clear.2.1 mX2_clear.2.2.1 mX2_clear.2.2.2 ∈ kx_tbl := kx_in (List.mem_of_getElem? (i := 206) (by decide +kernel)) (by decide +kernel)
theorem wm_X2_clear : Cond.instanceMethod yX2_clear ∈ kx_tbl := kx_in (List.mem_of_getElem? (i := 204) (by decide +kernel)) (by decide +kernel)
theorem ww_X2_clear : Cond.selects yX2_clear.cls yX2_clear yX2_clear ∈ kx_tbl := kx_in (List.mem_of_getElem? (i := 205) (by decide +kernel)) (by decide +kernel)
theorem wc_X1_letterAt : Cond.code mX1_letterAt.1 mX1_letterAt.2.1 mX1_letterAt.2.2.1 mX1_letterAt.2.2.2 ∈ kx_tbl := kx_in (List.mem_of_getElem? (i := 210) (by decide +kernel)) (by decide +kernel)
theorem wm_X1_letterAt : Cond.instanceMethod yX1_letterAt ∈ kx_tbl := kx_in (List.mem_of_getElem? (i := 209) (by decide +kernel)) (by decide +kernel)
theorem ww_X1_letterAt : Cond.selects yX1_letterAt.cls yX1_letterAt yX1_letterAt ∈ kx_tbl := kx_in (List.mem_of_getElem? (i := 0) (by decide +kernel)) (by decide +kernel)
theorem wc_X1_readPerson : Cond.code mX1_readPerson.1 mX1_readPerson.2.1 mX1_readPerson.2.2.1 mX1_readPerson.2.2.2 ∈ kx_tbl := kx_in (List.mem_of_getElem? (i := 214) (by decide +kernel)) (by decide +kernel)
theorem wm_X1_readPerson : Cond.instanceMethod yX1_readPerson ∈ kx_tbl := kx_in (List.mem_of_getElem? (i := 213) (by decide +kernel)) (by decide +kernel)
theorem ww_X1_readPerson : Cond.selects yX1_readPerson.cls yX1_readPerson yX1_readPerson ∈ kx_tbl := kx_in (List.mem_of_getElem? (i := 1) (by decide +kernel)) (by decide +kernel)
theorem wc_X1_digitAt : Cond.code mX1_digitAt.1 mX1_digitAt.2.1 mX1_digitAt.2.2.1 mX1_digitAt.2.2.2 ∈ kx_tbl := kx_in (List.mem_of_getElem? (i := 218) (by decide +kernel)) (by decide +kernel)
theorem wm_X1_digitAt : Cond.instanceMethod yX1_digitAt ∈ kx_tbl := kx_in (List.mem_of_getElem? (i := 217) (by decide +kernel)) (by decide +kernel)
theorem ww_X1_digitAt : Cond.selects yX1_digitAt.cls yX1_digitAt yX1_digitAt ∈ kx_tbl := kx_in (List.mem_of_getElem? (i := 2) (by decide +kernel)) (by decide +kernel)
theorem wc_X2_add : Cond.code mX2_add.1 mX2_add.2.1 mX2_add.2.2.1 mX2_add.2.2.2 ∈ kx_tbl := kx_in (List.mem_of_getElem? (i := 222) (by decide +kernel)) (by decide +kernel)
theorem wm_X2_add : Cond.instanceMethod yX2_add ∈ kx_tbl := kx_in (List.mem_of_getElem? (i := 220) (by decide +kernel)) (by decide +kernel)
theorem ww_X2_add : Cond.selects yX2_add.cls yX2_add yX2_add ∈ kx_tbl := kx_in (List.mem_of_getElem? (i := 221) (by decide +kernel)) (by decide +kernel)
theorem wc_X1_readKin : Cond.code mX1_readKin.1 mX1_readKin.2.1 mX1_readKin.2.2.1 mX1_readKin.2.2.2 ∈ kx_tbl := kx_in (List.mem_of_getElem? (i := 226) (by decide +kernel)) (by decide +kernel)
theorem wm_X1_readKin : Cond.instanceMethod yX1_readKin ∈ kx_tbl := kx_in (List.mem_of_getElem? (i := 225) (by decide +kernel)) (by decide +kernel)
theorem ww_X1_readKin : Cond.selects yX1_readKin.cls yX1_readKin yX1_readKin ∈ kx_tbl := kx_in (List.mem_of_getElem? (i := 3) (by decide +kernel)) (by decide +kernel)
theorem wc_X1_isPairLeft : Cond.code mX1_isPairLeft.1 mX1_isPairLeft.2.1 mX1_isPairLeft.2.2.1 mX1_isPairLeft.2.2.2 ∈ kx_tbl := kx_in (List.mem_of_getElem? (i := 230) (by decide +kernel)) (by decide +kernel)
theorem wm_X1_isPairLeft : Cond.instanceMethod yX1_isPairLeft ∈ kx_tbl := kx_in (List.mem_of_getElem? (i := 229) (by decide +kernel)) (by decide +kernel)
theorem ww_X1_isPairLeft : Cond.selects yX1_isPairLeft.cls yX1_isPairLeft yX1_isPairLeft ∈ kx_tbl := kx_in (List.mem_of_getElem? (i := 4) (by decide +kernel)) (by decide +kernel)
theorem wc_X2_laterStrangers : Cond.code mX2_laterStrangers.1 mX2_laterStrangers.2.1 mX2_laterStrangers.2.2.1 mX2_laterStrangers.2.2.2 ∈ kx_tbl := kx_in (List.mem_of_getElem? (i := 234) (by decide +kernel)) (by decide +kernel)
theorem wm_X2_laterStrangers : Cond.instanceMethod yX2_laterStrangers ∈ kx_tbl := kx_in (List.mem_of_getElem? (i := 232) (by decide +kernel)) (by decide +kernel)
theorem ww_X2_laterStrangers : Cond.selects yX2_laterStrangers.cls yX2_laterStrangers yX2_laterStrangers ∈ kx_tbl := kx_in (List.mem_of_getElem? (i := 233) (by decide +kernel)) (by decide +kernel)
theorem wc_X2_has : Cond.code mX2_has.1 mX2_has.2.1 mX2_has.2.2.1 mX2_has.2.2.2 ∈ kx_tbl := kx_in (List.mem_of_getElem? (i := 238) (by decide +kernel)) (by decide +kernel)
theorem wm_X2_has : Cond.instanceMethod yX2_has ∈ kx_tbl := kx_in (List.mem_of_getElem? (i := 236) (by decide +kernel)) (by decide +kernel)
theorem ww_X2_has : Cond.selects yX2_has.cls yX2_has yX2_has ∈ kx_tbl := kx_in (List.mem_of_getElem? (i := 237) (by decide +kernel)) (by decide +kernel)
theorem wc_X2_everyone : Cond.code mX2_everyone.1 mX2_everyone.2.1 mX2_everyone.2.2.1 mX2_everyone.2.2.2 ∈ kx_tbl := kx_in (List.mem_of_getElem? (i := 242) (by decide +kernel)) (by decide +kernel)
theorem wm_X2_everyone : Cond.instanceMethod yX2_everyone ∈ kx_tbl := kx_in (List.mem_of_getElem? (i := 240) (by decide +kernel)) (by decide +kernel)
theorem ww_X2_everyone : Cond.selects yX2_everyone.cls yX2_everyone yX2_everyone ∈ kx_tbl := kx_in (List.mem_of_getElem? (i := 241) (by decide +kernel)) (by decide +kernel)
theorem wc_X4_hasBit : Cond.code mX4_hasBit.1 mX4_hasBit.2.1 mX4_hasBit.2.2.1 mX4_hasBit.2.2.2 ∈ kx_tbl := kx_in (List.mem_of_getElem? (i := 245) (by decide +kernel)) (by decide +kernel)
theorem wt_X4_hasBit : Cond.static yX4_hasBit ∈ kx_tbl := kx_in (List.mem_of_getElem? (i := 244) (by decide +kernel)) (by decide +kernel)
theorem wc_X2_makeKin : Cond.code mX2_makeKin.1 mX2_makeKin.2.1 mX2_makeKin.2.2.1 mX2_makeKin.2.2.2 ∈ kx_tbl := kx_in (List.mem_of_getElem? (i := 249) (by decide +kernel)) (by decide +kernel)
theorem wm_X2_makeKin : Cond.instanceMethod yX2_makeKin ∈ kx_tbl := kx_in (List.mem_of_getElem? (i := 247) (by decide +kernel)) (by decide +kernel)
theorem ww_X2_makeKin : Cond.selects yX2_makeKin.cls yX2_makeKin yX2_makeKin ∈ kx_tbl := kx_in (List.mem_of_getElem? (i := 248) (by decide +kernel)) (by decide +kernel)
theorem wc_X4_land : Cond.code mX4_land.1 mX4_land.2.1 mX4_land.2.2.1 mX4_land.2.2.2 ∈ kx_tbl := kx_in (List.mem_of_getElem? (i := 253) (by decide +kernel)) (by decide +kernel)
theorem wm_X4_land : Cond.instanceMethod yX4_land ∈ kx_tbl := kx_in (List.mem_of_getElem? (i := 251) (by decide +kernel)) (by decide +kernel)
theorem ww_X4_land : Cond.selects yX4_land.cls yX4_land yX4_land ∈ kx_tbl := kx_in (List.mem_of_getElem? (i := 252) (by decide +kernel)) (by decide +kernel)
theorem wc_X2_copyFrom : Cond.code mX2_copyFrom.1 mX2_copyFrom.2.1 mX2_copyFrom.2.2.1 mX2_copyFrom.2.2.2 ∈ kx_tbl := kx_in (List.mem_of_getElem? (i := 257) (by decide +kernel)) (by decide +kernel)
theorem wm_X2_copyFrom : Cond.instanceMethod yX2_copyFrom ∈ kx_tbl := kx_in (List.mem_of_getElem? (i := 255) (by decide +kernel)) (by decide +kernel)
theorem ww_X2_copyFrom : Cond.selects yX2_copyFrom.cls yX2_copyFrom yX2_copyFrom ∈ kx_tbl := kx_in (List.mem_of_getElem? (i := 256) (by decide +kernel)) (by decide +kernel)
theorem wc_X0_forgetAll : Cond.code mX0_forgetAll.1 mX0_forgetAll.2.1 mX0_forgetAll.2.2.1 mX0_forgetAll.2.2.2 ∈ kx_tbl := kx_in (List.mem_of_getElem? (i := 264) (by decide +kernel)) (by decide +kernel)
theorem wm_X0_forgetAll : Cond.instanceMethod yX0_forgetAll ∈ kx_tbl := kx_in (List.mem_of_getElem? (i := 262) (by decide +kernel)) (by decide +kernel)
theorem ww_X0_forgetAll : Cond.selects yX0_forgetAll.cls yX0_forgetAll yX0_forgetAll ∈ kx_tbl := kx_in (List.mem_of_getElem? (i := 263) (by decide +kernel)) (by decide +kernel)
theorem wc_X4_about : Cond.code mX4_about.1 mX4_about.2.1 mX4_about.2.2.1 mX4_about.2.2.2 ∈ kx_tbl := kx_in (List.mem_of_getElem? (i := 268) (by decide +kernel)) (by decide +kernel)
theorem wm_X4_about : Cond.instanceMethod yX4_about ∈ kx_tbl := kx_in (List.mem_of_getElem? (i := 266) (by decide +kernel)) (by decide +kernel)
theorem ww_X4_about : Cond.selects yX4_about.cls yX4_about yX4_about ∈ kx_tbl := kx_in (List.mem_of_getElem? (i := 267) (by decide +kernel)) (by decide +kernel)
theorem wc_X2_allSorrow : Cond.code mX2_allSorrow.1 mX2_allSorrow.2.1 mX2_allSorrow.2.2.1 mX2_allSorrow.2.2.2 ∈ kx_tbl := kx_in (List.mem_of_getElem? (i := 272) (by decide +kernel)) (by decide +kernel)
theorem wm_X2_allSorrow : Cond.instanceMethod yX2_allSorrow ∈ kx_tbl := kx_in (List.mem_of_getElem? (i := 270) (by decide +kernel)) (by decide +kernel)
theorem ww_X2_allSorrow : Cond.selects yX2_allSorrow.cls yX2_allSorrow yX2_allSorrow ∈ kx_tbl := kx_in (List.mem_of_getElem? (i := 271) (by decide +kernel)) (by decide +kernel)
theorem wc_X4_person : Cond.code mX4_person.1 mX4_person.2.1 mX4_person.2.2.1 mX4_person.2.2.2 ∈ kx_tbl := kx_in (List.mem_of_getElem? (i := 276) (by decide +kernel)) (by decide +kernel)
theorem wm_X4_person : Cond.instanceMethod yX4_person ∈ kx_tbl := kx_in (List.mem_of_getElem? (i := 274) (by decide +kernel)) (by decide +kernel)
theorem ww_X4_person : Cond.selects yX4_person.cls yX4_person yX4_person ∈ kx_tbl := kx_in (List.mem_of_getElem? (i := 275) (by decide +kernel)) (by decide +kernel)
theorem wc_X2_ounces : Cond.code mX2_ounces.1 mX2_ounces.2.1 mX2_ounces.2.2.1 mX2_ounces.2.2.2 ∈ kx_tbl := kx_in (List.mem_of_getElem? (i := 281) (by decide +kernel)) (by decide +kernel)
theorem wm_X2_ounces : Cond.instanceMethod yX2_ounces ∈ kx_tbl := kx_in (List.mem_of_getElem? (i := 279) (by decide +kernel)) (by decide +kernel)
theorem ww_X2_ounces : Cond.selects yX2_ounces.cls yX2_ounces yX2_ounces ∈ kx_tbl := kx_in (List.mem_of_getElem? (i := 280) (by decide +kernel)) (by decide +kernel)
theorem wc_X2_thoseToWeepFor : Cond.code mX2_thoseToWeepFor.1 mX2_thoseToWeepFor.2.1 mX2_thoseToWeepFor.2.2.1 mX2_thoseToWeepFor.2.2.2 ∈ kx_tbl := kx_in (List.mem_of_getElem? (i := 285) (by decide +kernel)) (by decide +kernel)
theorem wm_X2_thoseToWeepFor : Cond.instanceMethod yX2_thoseToWeepFor ∈ kx_tbl := kx_in (List.mem_of_getElem? (i := 283) (by decide +kernel)) (by decide +kernel)
theorem ww_X2_thoseToWeepFor : Cond.selects yX2_thoseToWeepFor.cls yX2_thoseToWeepFor yX2_thoseToWeepFor ∈ kx_tbl := kx_in (List.mem_of_getElem? (i := 284) (by decide +kernel)) (by decide +kernel)
theorem wc_X2_mayWeep : Cond.code mX2_mayWeep.1 mX2_mayWeep.2.1 mX2_mayWeep.2.2.1 mX2_mayWeep.2.2.2 ∈ kx_tbl := kx_in (List.mem_of_getElem? (i := 289) (by decide +kernel)) (by decide +kernel)
theorem wm_X2_mayWeep : Cond.instanceMethod yX2_mayWeep ∈ kx_tbl := kx_in (List.mem_of_getElem? (i := 287) (by decide +kernel)) (by decide +kernel)
theorem ww_X2_mayWeep : Cond.selects yX2_mayWeep.cls yX2_mayWeep yX2_mayWeep ∈ kx_tbl := kx_in (List.mem_of_getElem? (i := 288) (by decide +kernel)) (by decide +kernel)
theorem wc_X2_isOpen : Cond.code mX2_isOpen.1 mX2_isOpen.2.1 mX2_isOpen.2.2.1 mX2_isOpen.2.2.2 ∈ kx_tbl := kx_in (List.mem_of_getElem? (i := 293) (by decide +kernel)) (by decide +kernel)
theorem wm_X2_isOpen : Cond.instanceMethod yX2_isOpen ∈ kx_tbl := kx_in (List.mem_of_getElem? (i := 291) (by decide +kernel)) (by decide +kernel)
theorem ww_X2_isOpen : Cond.selects yX2_isOpen.cls yX2_isOpen yX2_isOpen ∈ kx_tbl := kx_in (List.mem_of_getElem? (i := 292) (by decide +kernel)) (by decide +kernel)
theorem wc_X2_isFitFor : Cond.code mX2_isFitFor.1 mX2_isFitFor.2.1 mX2_isFitFor.2.2.1 mX2_isFitFor.2.2.2 ∈ kx_tbl := kx_in (List.mem_of_getElem? (i := 298) (by decide +kernel)) (by decide +kernel)
theorem wm_X2_isFitFor : Cond.instanceMethod yX2_isFitFor ∈ kx_tbl := kx_in (List.mem_of_getElem? (i := 296) (by decide +kernel)) (by decide +kernel)
theorem ww_X2_isFitFor : Cond.selects yX2_isFitFor.cls yX2_isFitFor yX2_isFitFor ∈ kx_tbl := kx_in (List.mem_of_getElem? (i := 297) (by decide +kernel)) (by decide +kernel)
theorem wc_X2_areKin : Cond.code mX2_areKin.1 mX2_areKin.2.1 mX2_areKin.2.2.1 mX2_areKin.2.2.2 ∈ kx_tbl := kx_in (List.mem_of_getElem? (i := 303) (by decide +kernel)) (by decide +kernel)
theorem wm_X2_areKin : Cond.instanceMethod yX2_areKin ∈ kx_tbl := kx_in (List.mem_of_getElem? (i := 301) (by decide +kernel)) (by decide +kernel)
theorem ww_X2_areKin : Cond.selects yX2_areKin.cls yX2_areKin yX2_areKin ∈ kx_tbl := kx_in (List.mem_of_getElem? (i := 302) (by decide +kernel)) (by decide +kernel)
theorem wc_X4_owes : Cond.code mX4_owes.1 mX4_owes.2.1 mX4_owes.2.2.1 mX4_owes.2.2.2 ∈ kx_tbl := kx_in (List.mem_of_getElem? (i := 307) (by decide +kernel)) (by decide +kernel)
theorem wm_X4_owes : Cond.instanceMethod yX4_owes ∈ kx_tbl := kx_in (List.mem_of_getElem? (i := 305) (by decide +kernel)) (by decide +kernel)
theorem ww_X4_owes : Cond.selects yX4_owes.cls yX4_owes yX4_owes ∈ kx_tbl := kx_in (List.mem_of_getElem? (i := 306) (by decide +kernel)) (by decide +kernel)
theorem wc_X2_debt : Cond.code mX2_debt.1 mX2_debt.2.1 mX2_debt.2.2.1 mX2_debt.2.2.2 ∈ kx_tbl := kx_in (List.mem_of_getElem? (i := 311) (by decide +kernel)) (by decide +kernel)
theorem wm_X2_debt : Cond.instanceMethod yX2_debt ∈ kx_tbl := kx_in (List.mem_of_getElem? (i := 309) (by decide +kernel)) (by decide +kernel)
theorem ww_X2_debt : Cond.selects yX2_debt.cls yX2_debt yX2_debt ∈ kx_tbl := kx_in (List.mem_of_getElem? (i := 310) (by decide +kernel)) (by decide +kernel)
theorem wc_X4_funeral : Cond.code mX4_funeral.1 mX4_funeral.2.1 mX4_funeral.2.2.1 mX4_funeral.2.2.2 ∈ kx_tbl := kx_in (List.mem_of_getElem? (i := 315) (by decide +kernel)) (by decide +kernel)
theorem wm_X4_funeral : Cond.instanceMethod yX4_funeral ∈ kx_tbl := kx_in (List.mem_of_getElem? (i := 313) (by decide +kernel)) (by decide +kernel)
theorem ww_X4_funeral : Cond.selects yX4_funeral.cls yX4_funeral yX4_funeral ∈ kx_tbl := kx_in (List.mem_of_getElem? (i := 314) (by decide +kernel)) (by decide +kernel)
theorem wc_X0_remember : Cond.code mX0_remember.1 mX0_remember.2.1 mX0_remember.2.2.1 mX0_remember.2.2.2 ∈ kx_tbl := kx_in (List.mem_of_getElem? (i := 320) (by decide +kernel)) (by decide +kernel)
theorem wm_X0_remember : Cond.instanceMethod yX0_remember ∈ kx_tbl := kx_in (List.mem_of_getElem? (i := 318) (by decide +kernel)) (by decide +kernel)
theorem ww_X0_remember : Cond.selects yX0_remember.cls yX0_remember yX0_remember ∈ kx_tbl := kx_in (List.mem_of_getElem? (i := 319) (by decide +kernel)) (by decide +kernel)
theorem wc_X0_inRing : Cond.code mX0_inRing.1 mX0_inRing.2.1 mX0_inRing.2.2.1 mX0_inRing.2.2.2 ∈ kx_tbl := kx_in (List.mem_of_getElem? (i := 323) (by decide +kernel)) (by decide +kernel)
theorem wt_X0_inRing : Cond.static yX0_inRing ∈ kx_tbl := kx_in (List.mem_of_getElem? (i := 322) (by decide +kernel)) (by decide +kernel)
theorem wc_X2_bereave : Cond.code mX2_bereave.1 mX2_bereave.2.1 mX2_bereave.2.2.1 mX2_bereave.2.2.2 ∈ kx_tbl := kx_in (List.mem_of_getElem? (i := 331) (by decide +kernel)) (by decide +kernel)
theorem wm_X2_bereave : Cond.instanceMethod yX2_bereave ∈ kx_tbl := kx_in (List.mem_of_getElem? (i := 329) (by decide +kernel)) (by decide +kernel)
theorem ww_X2_bereave : Cond.selects yX2_bereave.cls yX2_bereave yX2_bereave ∈ kx_tbl := kx_in (List.mem_of_getElem? (i := 330) (by decide +kernel)) (by decide +kernel)
theorem wc_X4_weep : Cond.code mX4_weep.1 mX4_weep.2.1 mX4_weep.2.2.1 mX4_weep.2.2.2 ∈ kx_tbl := kx_in (List.mem_of_getElem? (i := 341) (by decide +kernel)) (by decide +kernel)
theorem wm_X4_weep : Cond.instanceMethod yX4_weep ∈ kx_tbl := kx_in (List.mem_of_getElem? (i := 339) (by decide +kernel)) (by decide +kernel)
theorem ww_X4_weep : Cond.selects yX4_weep.cls yX4_weep yX4_weep ∈ kx_tbl := kx_in (List.mem_of_getElem? (i := 340) (by decide +kernel)) (by decide +kernel)
theorem wc_X2_weepFor : Cond.code mX2_weepFor.1 mX2_weepFor.2.1 mX2_weepFor.2.2.1 mX2_weepFor.2.2.2 ∈ kx_tbl := kx_in (List.mem_of_getElem? (i := 346) (by decide +kernel)) (by decide +kernel)
theorem wm_X2_weepFor : Cond.instanceMethod yX2_weepFor ∈ kx_tbl := kx_in (List.mem_of_getElem? (i := 344) (by decide +kernel)) (by decide +kernel)
theorem ww_X2_weepFor : Cond.selects yX2_weepFor.cls yX2_weepFor yX2_weepFor ∈ kx_tbl := kx_in (List.mem_of_getElem? (i := 345) (by decide +kernel)) (by decide +kernel)
theorem wc_X2_settle : Cond.code mX2_settle.1 mX2_settle.2.1 mX2_settle.2.2.1 mX2_settle.2.2.2 ∈ kx_tbl := kx_in (List.mem_of_getElem? (i := 350) (by decide +kernel)) (by decide +kernel)
theorem wm_X2_settle : Cond.instanceMethod yX2_settle ∈ kx_tbl := kx_in (List.mem_of_getElem? (i := 349) (by decide +kernel)) (by decide +kernel)
theorem ww_X2_settle : Cond.selects yX2_settle.cls yX2_settle yX2_settle ∈ kx_tbl := kx_in (List.mem_of_getElem? (i := 5) (by decide +kernel)) (by decide +kernel)
theorem wc_X4_onions : Cond.code mX4_onions.1 mX4_onions.2.1 mX4_onions.2.2.1 mX4_onions.2.2.2 ∈ kx_tbl := kx_in (List.mem_of_getElem? (i := 355) (by decide +kernel)) (by decide +kernel)
theorem wm_X4_onions : Cond.instanceMethod yX4_onions ∈ kx_tbl := kx_in (List.mem_of_getElem? (i := 353) (by decide +kernel)) (by decide +kernel)
theorem ww_X4_onions : Cond.selects yX4_onions.cls yX4_onions yX4_onions ∈ kx_tbl := kx_in (List.mem_of_getElem? (i := 354) (by decide +kernel)) (by decide +kernel)
theorem wc_X2_mayUseOnions : Cond.code mX2_mayUseOnions.1 mX2_mayUseOnions.2.1 mX2_mayUseOnions.2.2.1 mX2_mayUseOnions.2.2.2 ∈ kx_tbl := kx_in (List.mem_of_getElem? (i := 359) (by decide +kernel)) (by decide +kernel)
theorem wm_X2_mayUseOnions : Cond.instanceMethod yX2_mayUseOnions ∈ kx_tbl := kx_in (List.mem_of_getElem? (i := 357) (by decide +kernel)) (by decide +kernel)
theorem ww_X2_mayUseOnions : Cond.selects yX2_mayUseOnions.cls yX2_mayUseOnions yX2_mayUseOnions ∈ kx_tbl := kx_in (List.mem_of_getElem? (i := 358) (by decide +kernel)) (by decide +kernel)
theorem wc_X2_useOnions : Cond.code mX2_useOnions.1 mX2_useOnions.2.1 mX2_useOnions.2.2.1 mX2_useOnions.2.2.2 ∈ kx_tbl := kx_in (List.mem_of_getElem? (i := 363) (by decide +kernel)) (by decide +kernel)
theorem wm_X2_useOnions : Cond.instanceMethod yX2_useOnions ∈ kx_tbl := kx_in (List.mem_of_getElem? (i := 361) (by decide +kernel)) (by decide +kernel)
theorem ww_X2_useOnions : Cond.selects yX2_useOnions.cls yX2_useOnions yX2_useOnions ∈ kx_tbl := kx_in (List.mem_of_getElem? (i := 362) (by decide +kernel)) (by decide +kernel)
theorem wc_X4_week : Cond.code mX4_week.1 mX4_week.2.1 mX4_week.2.2.1 mX4_week.2.2.2 ∈ kx_tbl := kx_in (List.mem_of_getElem? (i := 368) (by decide +kernel)) (by decide +kernel)
theorem wm_X4_week : Cond.instanceMethod yX4_week ∈ kx_tbl := kx_in (List.mem_of_getElem? (i := 366) (by decide +kernel)) (by decide +kernel)
theorem ww_X4_week : Cond.selects yX4_week.cls yX4_week yX4_week ∈ kx_tbl := kx_in (List.mem_of_getElem? (i := 367) (by decide +kernel)) (by decide +kernel)
theorem wc_X2_passWeek : Cond.code mX2_passWeek.1 mX2_passWeek.2.1 mX2_passWeek.2.2.1 mX2_passWeek.2.2.2 ∈ kx_tbl := kx_in (List.mem_of_getElem? (i := 372) (by decide +kernel)) (by decide +kernel)
theorem wm_X2_passWeek : Cond.instanceMethod yX2_passWeek ∈ kx_tbl := kx_in (List.mem_of_getElem? (i := 370) (by decide +kernel)) (by decide +kernel)
theorem ww_X2_passWeek : Cond.selects yX2_passWeek.cls yX2_passWeek yX2_passWeek ∈ kx_tbl := kx_in (List.mem_of_getElem? (i := 371) (by decide +kernel)) (by decide +kernel)
theorem wc_X4_undo : Cond.code mX4_undo.1 mX4_undo.2.1 mX4_undo.2.2.1 mX4_undo.2.2.2 ∈ kx_tbl := kx_in (List.mem_of_getElem? (i := 382) (by decide +kernel)) (by decide +kernel)
theorem wm_X4_undo : Cond.instanceMethod yX4_undo ∈ kx_tbl := kx_in (List.mem_of_getElem? (i := 380) (by decide +kernel)) (by decide +kernel)
theorem ww_X4_undo : Cond.selects yX4_undo.cls yX4_undo yX4_undo ∈ kx_tbl := kx_in (List.mem_of_getElem? (i := 381) (by decide +kernel)) (by decide +kernel)
theorem wc_X0_takeLast : Cond.code mX0_takeLast.1 mX0_takeLast.2.1 mX0_takeLast.2.2.1 mX0_takeLast.2.2.2 ∈ kx_tbl := kx_in (List.mem_of_getElem? (i := 386) (by decide +kernel)) (by decide +kernel)
theorem wm_X0_takeLast : Cond.instanceMethod yX0_takeLast ∈ kx_tbl := kx_in (List.mem_of_getElem? (i := 384) (by decide +kernel)) (by decide +kernel)
theorem ww_X0_takeLast : Cond.selects yX0_takeLast.cls yX0_takeLast yX0_takeLast ∈ kx_tbl := kx_in (List.mem_of_getElem? (i := 385) (by decide +kernel)) (by decide +kernel)
theorem wc_X4_served : Cond.code mX4_served.1 mX4_served.2.1 mX4_served.2.2.1 mX4_served.2.2.2 ∈ kx_tbl := kx_in (List.mem_of_getElem? (i := 390) (by decide +kernel)) (by decide +kernel)
theorem wm_X4_served : Cond.instanceMethod yX4_served ∈ kx_tbl := kx_in (List.mem_of_getElem? (i := 388) (by decide +kernel)) (by decide +kernel)
theorem ww_X4_served : Cond.selects yX4_served.cls yX4_served yX4_served ∈ kx_tbl := kx_in (List.mem_of_getElem? (i := 389) (by decide +kernel)) (by decide +kernel)
theorem wc_X2_unbereaved : Cond.code mX2_unbereaved.1 mX2_unbereaved.2.1 mX2_unbereaved.2.2.1 mX2_unbereaved.2.2.2 ∈ kx_tbl := kx_in (List.mem_of_getElem? (i := 394) (by decide +kernel)) (by decide +kernel)
theorem wm_X2_unbereaved : Cond.instanceMethod yX2_unbereaved ∈ kx_tbl := kx_in (List.mem_of_getElem? (i := 392) (by decide +kernel)) (by decide +kernel)
theorem ww_X2_unbereaved : Cond.selects yX2_unbereaved.cls yX2_unbereaved yX2_unbereaved ∈ kx_tbl := kx_in (List.mem_of_getElem? (i := 393) (by decide +kernel)) (by decide +kernel)
theorem wc_X3_search : Cond.code mX3_search.1 mX3_search.2.1 mX3_search.2.2.1 mX3_search.2.2.2 ∈ kx_tbl := kx_in (List.mem_of_getElem? (i := 398) (by decide +kernel)) (by decide +kernel)
theorem wm_X3_search : Cond.instanceMethod yX3_search ∈ kx_tbl := kx_in (List.mem_of_getElem? (i := 396) (by decide +kernel)) (by decide +kernel)
theorem ww_X3_search : Cond.selects yX3_search.cls yX3_search yX3_search ∈ kx_tbl := kx_in (List.mem_of_getElem? (i := 397) (by decide +kernel)) (by decide +kernel)
theorem wc_X3_give : Cond.code mX3_give.1 mX3_give.2.1 mX3_give.2.2.1 mX3_give.2.2.2 ∈ kx_tbl := kx_in (List.mem_of_getElem? (i := 401) (by decide +kernel)) (by decide +kernel)
theorem wt_X3_give : Cond.static yX3_give ∈ kx_tbl := kx_in (List.mem_of_getElem? (i := 400) (by decide +kernel)) (by decide +kernel)
theorem wc_X3_compare : Cond.code mX3_compare.1 mX3_compare.2.1 mX3_compare.2.2.1 mX3_compare.2.2.2 ∈ kx_tbl := kx_in (List.mem_of_getElem? (i := 405) (by decide +kernel)) (by decide +kernel)
theorem wm_X3_compare : Cond.instanceMethod yX3_compare ∈ kx_tbl := kx_in (List.mem_of_getElem? (i := 404) (by decide +kernel)) (by decide +kernel)
theorem ww_X3_compare : Cond.selects yX3_compare.cls yX3_compare yX3_compare ∈ kx_tbl := kx_in (List.mem_of_getElem? (i := 6) (by decide +kernel)) (by decide +kernel)
theorem wc_X4_nobody : Cond.code mX4_nobody.1 mX4_nobody.2.1 mX4_nobody.2.2.1 mX4_nobody.2.2.2 ∈ kx_tbl := kx_in (List.mem_of_getElem? (i := 412) (by decide +kernel)) (by decide +kernel)
theorem wm_X4_nobody : Cond.instanceMethod yX4_nobody ∈ kx_tbl := kx_in (List.mem_of_getElem? (i := 410) (by decide +kernel)) (by decide +kernel)
theorem ww_X4_nobody : Cond.selects yX4_nobody.cls yX4_nobody yX4_nobody ∈ kx_tbl := kx_in (List.mem_of_getElem? (i := 411) (by decide +kernel)) (by decide +kernel)
theorem wc_X2_unweptBits : Cond.code mX2_unweptBits.1 mX2_unweptBits.2.1 mX2_unweptBits.2.2.1 mX2_unweptBits.2.2.2 ∈ kx_tbl := kx_in (List.mem_of_getElem? (i := 416) (by decide +kernel)) (by decide +kernel)
theorem wm_X2_unweptBits : Cond.instanceMethod yX2_unweptBits ∈ kx_tbl := kx_in (List.mem_of_getElem? (i := 414) (by decide +kernel)) (by decide +kernel)
theorem ww_X2_unweptBits : Cond.selects yX2_unweptBits.cls yX2_unweptBits yX2_unweptBits ∈ kx_tbl := kx_in (List.mem_of_getElem? (i := 415) (by decide +kernel)) (by decide +kernel)
theorem wc_X2_kinToAllBits : Cond.code mX2_kinToAllBits.1 mX2_kinToAllBits.2.1 mX2_kinToAllBits.2.2.1 mX2_kinToAllBits.2.2.2 ∈ kx_tbl := kx_in (List.mem_of_getElem? (i := 421) (by decide +kernel)) (by decide +kernel)
theorem wm_X2_kinToAllBits : Cond.instanceMethod yX2_kinToAllBits ∈ kx_tbl := kx_in (List.mem_of_getElem? (i := 419) (by decide +kernel)) (by decide +kernel)
theorem ww_X2_kinToAllBits : Cond.selects yX2_kinToAllBits.cls yX2_kinToAllBits yX2_kinToAllBits ∈ kx_tbl := kx_in (List.mem_of_getElem? (i := 420) (by decide +kernel)) (by decide +kernel)
theorem wc_X4_till : Cond.code mX4_till.1 mX4_till.2.1 mX4_till.2.2.1 mX4_till.2.2.2 ∈ kx_tbl := kx_in (List.mem_of_getElem? (i := 425) (by decide +kernel)) (by decide +kernel)
theorem wm_X4_till : Cond.instanceMethod yX4_till ∈ kx_tbl := kx_in (List.mem_of_getElem? (i := 423) (by decide +kernel)) (by decide +kernel)
theorem ww_X4_till : Cond.selects yX4_till.cls yX4_till yX4_till ∈ kx_tbl := kx_in (List.mem_of_getElem? (i := 424) (by decide +kernel)) (by decide +kernel)
theorem wc_X4_net : Cond.code mX4_net.1 mX4_net.2.1 mX4_net.2.2.1 mX4_net.2.2.2 ∈ kx_tbl := kx_in (List.mem_of_getElem? (i := 429) (by decide +kernel)) (by decide +kernel)
theorem wm_X4_net : Cond.instanceMethod yX4_net ∈ kx_tbl := kx_in (List.mem_of_getElem? (i := 427) (by decide +kernel)) (by decide +kernel)
theorem ww_X4_net : Cond.selects yX4_net.cls yX4_net yX4_net ∈ kx_tbl := kx_in (List.mem_of_getElem? (i := 428) (by decide +kernel)) (by decide +kernel)
theorem wc_X4_ring : Cond.code mX4_ring.1 mX4_ring.2.1 mX4_ring.2.2.1 mX4_ring.2.2.2 ∈ kx_tbl := kx_in (List.mem_of_getElem? (i := 433) (by decide +kernel)) (by decide +kernel)
theorem wm_X4_ring : Cond.instanceMethod yX4_ring ∈ kx_tbl := kx_in (List.mem_of_getElem? (i := 431) (by decide +kernel)) (by decide +kernel)
theorem ww_X4_ring : Cond.selects yX4_ring.cls yX4_ring yX4_ring ∈ kx_tbl := kx_in (List.mem_of_getElem? (i := 432) (by decide +kernel)) (by decide +kernel)
theorem wc_X2_reachedByDebts : Cond.code mX2_reachedByDebts.1 mX2_reachedByDebts.2.1 mX2_reachedByDebts.2.2.1 mX2_reachedByDebts.2.2.2 ∈ kx_tbl := kx_in (List.mem_of_getElem? (i := 437) (by decide +kernel)) (by decide +kernel)
theorem wm_X2_reachedByDebts : Cond.instanceMethod yX2_reachedByDebts ∈ kx_tbl := kx_in (List.mem_of_getElem? (i := 435) (by decide +kernel)) (by decide +kernel)
theorem ww_X2_reachedByDebts : Cond.selects yX2_reachedByDebts.cls yX2_reachedByDebts yX2_reachedByDebts ∈ kx_tbl := kx_in (List.mem_of_getElem? (i := 436) (by decide +kernel)) (by decide +kernel)
theorem wc_X2_creditors : Cond.code mX2_creditors.1 mX2_creditors.2.1 mX2_creditors.2.2.1 mX2_creditors.2.2.2 ∈ kx_tbl := kx_in (List.mem_of_getElem? (i := 441) (by decide +kernel)) (by decide +kernel)
theorem wm_X2_creditors : Cond.instanceMethod yX2_creditors ∈ kx_tbl := kx_in (List.mem_of_getElem? (i := 440) (by decide +kernel)) (by decide +kernel)
theorem ww_X2_creditors : Cond.selects yX2_creditors.cls yX2_creditors yX2_creditors ∈ kx_tbl := kx_in (List.mem_of_getElem? (i := 7) (by decide +kernel)) (by decide +kernel)
theorem wc_X4_share : Cond.code mX4_share.1 mX4_share.2.1 mX4_share.2.2.1 mX4_share.2.2.2 ∈ kx_tbl := kx_in (List.mem_of_getElem? (i := 446) (by decide +kernel)) (by decide +kernel)
theorem wm_X4_share : Cond.instanceMethod yX4_share ∈ kx_tbl := kx_in (List.mem_of_getElem? (i := 444) (by decide +kernel)) (by decide +kernel)
theorem ww_X4_share : Cond.selects yX4_share.cls yX4_share yX4_share ∈ kx_tbl := kx_in (List.mem_of_getElem? (i := 445) (by decide +kernel)) (by decide +kernel)
theorem wc_X4_fraction : Cond.code mX4_fraction.1 mX4_fraction.2.1 mX4_fraction.2.2.1 mX4_fraction.2.2.2 ∈ kx_tbl := kx_in (List.mem_of_getElem? (i := 449) (by decide +kernel)) (by decide +kernel)
theorem wt_X4_fraction : Cond.static yX4_fraction ∈ kx_tbl := kx_in (List.mem_of_getElem? (i := 448) (by decide +kernel)) (by decide +kernel)
theorem wc_X4_factorial : Cond.code mX4_factorial.1 mX4_factorial.2.1 mX4_factorial.2.2.1 mX4_factorial.2.2.2 ∈ kx_tbl := kx_in (List.mem_of_getElem? (i := 452) (by decide +kernel)) (by decide +kernel)
theorem wt_X4_factorial : Cond.static yX4_factorial ∈ kx_tbl := kx_in (List.mem_of_getElem? (i := 451) (by decide +kernel)) (by decide +kernel)
theorem wc_X4_gain : Cond.code mX4_gain.1 mX4_gain.2.1 mX4_gain.2.2.1 mX4_gain.2.2.2 ∈ kx_tbl := kx_in (List.mem_of_getElem? (i := 458) (by decide +kernel)) (by decide +kernel)
theorem wm_X4_gain : Cond.instanceMethod yX4_gain ∈ kx_tbl := kx_in (List.mem_of_getElem? (i := 457) (by decide +kernel)) (by decide +kernel)
theorem ww_X4_gain : Cond.selects yX4_gain.cls yX4_gain yX4_gain ∈ kx_tbl := kx_in (List.mem_of_getElem? (i := 8) (by decide +kernel)) (by decide +kernel)
theorem wc_X4_weighed : Cond.code mX4_weighed.1 mX4_weighed.2.1 mX4_weighed.2.2.1 mX4_weighed.2.2.2 ∈ kx_tbl := kx_in (List.mem_of_getElem? (i := 462) (by decide +kernel)) (by decide +kernel)
theorem wm_X4_weighed : Cond.instanceMethod yX4_weighed ∈ kx_tbl := kx_in (List.mem_of_getElem? (i := 460) (by decide +kernel)) (by decide +kernel)
theorem ww_X4_weighed : Cond.selects yX4_weighed.cls yX4_weighed yX4_weighed ∈ kx_tbl := kx_in (List.mem_of_getElem? (i := 461) (by decide +kernel)) (by decide +kernel)
theorem wc_X4_weight : Cond.code mX4_weight.1 mX4_weight.2.1 mX4_weight.2.2.1 mX4_weight.2.2.2 ∈ kx_tbl := kx_in (List.mem_of_getElem? (i := 467) (by decide +kernel)) (by decide +kernel)
theorem wm_X4_weight : Cond.instanceMethod yX4_weight ∈ kx_tbl := kx_in (List.mem_of_getElem? (i := 466) (by decide +kernel)) (by decide +kernel)
theorem ww_X4_weight : Cond.selects yX4_weight.cls yX4_weight yX4_weight ∈ kx_tbl := kx_in (List.mem_of_getElem? (i := 9) (by decide +kernel)) (by decide +kernel)
theorem wc_X4_whose : Cond.code mX4_whose.1 mX4_whose.2.1 mX4_whose.2.2.1 mX4_whose.2.2.2 ∈ kx_tbl := kx_in (List.mem_of_getElem? (i := 472) (by decide +kernel)) (by decide +kernel)
theorem wm_X4_whose : Cond.instanceMethod yX4_whose ∈ kx_tbl := kx_in (List.mem_of_getElem? (i := 470) (by decide +kernel)) (by decide +kernel)
theorem ww_X4_whose : Cond.selects yX4_whose.cls yX4_whose yX4_whose ∈ kx_tbl := kx_in (List.mem_of_getElem? (i := 471) (by decide +kernel)) (by decide +kernel)
theorem wc_X4_rests : Cond.code mX4_rests.1 mX4_rests.2.1 mX4_rests.2.2.1 mX4_rests.2.2.2 ∈ kx_tbl := kx_in (List.mem_of_getElem? (i := 476) (by decide +kernel)) (by decide +kernel)
theorem wm_X4_rests : Cond.instanceMethod yX4_rests ∈ kx_tbl := kx_in (List.mem_of_getElem? (i := 474) (by decide +kernel)) (by decide +kernel)
theorem ww_X4_rests : Cond.selects yX4_rests.cls yX4_rests yX4_rests ∈ kx_tbl := kx_in (List.mem_of_getElem? (i := 475) (by decide +kernel)) (by decide +kernel)
theorem wc_X4_isAtRest : Cond.code mX4_isAtRest.1 mX4_isAtRest.2.1 mX4_isAtRest.2.2.1 mX4_isAtRest.2.2.2 ∈ kx_tbl := kx_in (List.mem_of_getElem? (i := 479) (by decide +kernel)) (by decide +kernel)
theorem wt_X4_isAtRest : Cond.static yX4_isAtRest ∈ kx_tbl := kx_in (List.mem_of_getElem? (i := 478) (by decide +kernel)) (by decide +kernel)
theorem wc_X4_gotByOne : Cond.code mX4_gotByOne.1 mX4_gotByOne.2.1 mX4_gotByOne.2.2.1 mX4_gotByOne.2.2.2 ∈ kx_tbl := kx_in (List.mem_of_getElem? (i := 482) (by decide +kernel)) (by decide +kernel)
theorem wt_X4_gotByOne : Cond.static yX4_gotByOne ∈ kx_tbl := kx_in (List.mem_of_getElem? (i := 481) (by decide +kernel)) (by decide +kernel)
theorem wc_X4_oneWeeps : Cond.code mX4_oneWeeps.1 mX4_oneWeeps.2.1 mX4_oneWeeps.2.2.1 mX4_oneWeeps.2.2.2 ∈ kx_tbl := kx_in (List.mem_of_getElem? (i := 485) (by decide +kernel)) (by decide +kernel)
theorem wt_X4_oneWeeps : Cond.static yX4_oneWeeps ∈ kx_tbl := kx_in (List.mem_of_getElem? (i := 484) (by decide +kernel)) (by decide +kernel)
theorem wc_X4_got : Cond.code mX4_got.1 mX4_got.2.1 mX4_got.2.2.1 mX4_got.2.2.2 ∈ kx_tbl := kx_in (List.mem_of_getElem? (i := 488) (by decide +kernel)) (by decide +kernel)
theorem wt_X4_got : Cond.static yX4_got ∈ kx_tbl := kx_in (List.mem_of_getElem? (i := 487) (by decide +kernel)) (by decide +kernel)
theorem wc_X4_gotByOther : Cond.code mX4_gotByOther.1 mX4_gotByOther.2.1 mX4_gotByOther.2.2.1 mX4_gotByOther.2.2.2 ∈ kx_tbl := kx_in (List.mem_of_getElem? (i := 491) (by decide +kernel)) (by decide +kernel)
theorem wt_X4_gotByOther : Cond.static yX4_gotByOther ∈ kx_tbl := kx_in (List.mem_of_getElem? (i := 490) (by decide +kernel)) (by decide +kernel)
theorem wc_X4_chance : Cond.code mX4_chance.1 mX4_chance.2.1 mX4_chance.2.2.1 mX4_chance.2.2.2 ∈ kx_tbl := kx_in (List.mem_of_getElem? (i := 495) (by decide +kernel)) (by decide +kernel)
theorem wm_X4_chance : Cond.instanceMethod yX4_chance ∈ kx_tbl := kx_in (List.mem_of_getElem? (i := 493) (by decide +kernel)) (by decide +kernel)
theorem ww_X4_chance : Cond.selects yX4_chance.cls yX4_chance yX4_chance ∈ kx_tbl := kx_in (List.mem_of_getElem? (i := 494) (by decide +kernel)) (by decide +kernel)
theorem wc_X4_allServed : Cond.code mX4_allServed.1 mX4_allServed.2.1 mX4_allServed.2.2.1 mX4_allServed.2.2.2 ∈ kx_tbl := kx_in (List.mem_of_getElem? (i := 499) (by decide +kernel)) (by decide +kernel)
theorem wm_X4_allServed : Cond.instanceMethod yX4_allServed ∈ kx_tbl := kx_in (List.mem_of_getElem? (i := 498) (by decide +kernel)) (by decide +kernel)
theorem ww_X4_allServed : Cond.selects yX4_allServed.cls yX4_allServed yX4_allServed ∈ kx_tbl := kx_in (List.mem_of_getElem? (i := 10) (by decide +kernel)) (by decide +kernel)
theorem wc_X4_power : Cond.code mX4_power.1 mX4_power.2.1 mX4_power.2.2.1 mX4_power.2.2.2 ∈ kx_tbl := kx_in (List.mem_of_getElem? (i := 502) (by decide +kernel)) (by decide +kernel)
theorem wt_X4_power : Cond.static yX4_power ∈ kx_tbl := kx_in (List.mem_of_getElem? (i := 501) (by decide +kernel)) (by decide +kernel)
theorem wc_X4_seed : Cond.code mX4_seed.1 mX4_seed.2.1 mX4_seed.2.2.1 mX4_seed.2.2.2 ∈ kx_tbl := kx_in (List.mem_of_getElem? (i := 506) (by decide +kernel)) (by decide +kernel)
theorem wm_X4_seed : Cond.instanceMethod yX4_seed ∈ kx_tbl := kx_in (List.mem_of_getElem? (i := 504) (by decide +kernel)) (by decide +kernel)
theorem ww_X4_seed : Cond.selects yX4_seed.cls yX4_seed yX4_seed ∈ kx_tbl := kx_in (List.mem_of_getElem? (i := 505) (by decide +kernel)) (by decide +kernel)
theorem wc_X4_years : Cond.code mX4_years.1 mX4_years.2.1 mX4_years.2.2.1 mX4_years.2.2.2 ∈ kx_tbl := kx_in (List.mem_of_getElem? (i := 510) (by decide +kernel)) (by decide +kernel)
theorem wm_X4_years : Cond.instanceMethod yX4_years ∈ kx_tbl := kx_in (List.mem_of_getElem? (i := 508) (by decide +kernel)) (by decide +kernel)
theorem ww_X4_years : Cond.selects yX4_years.cls yX4_years yX4_years ∈ kx_tbl := kx_in (List.mem_of_getElem? (i := 509) (by decide +kernel)) (by decide +kernel)
theorem wc_X4_keep : Cond.code mX4_keep.1 mX4_keep.2.1 mX4_keep.2.2.1 mX4_keep.2.2.2 ∈ kx_tbl := kx_in (List.mem_of_getElem? (i := 517) (by decide +kernel)) (by decide +kernel)
theorem wm_X4_keep : Cond.instanceMethod yX4_keep ∈ kx_tbl := kx_in (List.mem_of_getElem? (i := 515) (by decide +kernel)) (by decide +kernel)
theorem ww_X4_keep : Cond.selects yX4_keep.cls yX4_keep yX4_keep ∈ kx_tbl := kx_in (List.mem_of_getElem? (i := 516) (by decide +kernel)) (by decide +kernel)
theorem wc_X4_again : Cond.code mX4_again.1 mX4_again.2.1 mX4_again.2.2.1 mX4_again.2.2.2 ∈ kx_tbl := kx_in (List.mem_of_getElem? (i := 521) (by decide +kernel)) (by decide +kernel)
theorem wm_X4_again : Cond.instanceMethod yX4_again ∈ kx_tbl := kx_in (List.mem_of_getElem? (i := 519) (by decide +kernel)) (by decide +kernel)
theorem ww_X4_again : Cond.selects yX4_again.cls yX4_again yX4_again ∈ kx_tbl := kx_in (List.mem_of_getElem? (i := 520) (by decide +kernel)) (by decide +kernel)
theorem wc_X5_init : Cond.code mX5_init.1 mX5_init.2.1 mX5_init.2.2.1 mX5_init.2.2.2 ∈ kx_tbl := kx_in (List.mem_of_getElem? (i := 526) (by decide +kernel)) (by decide +kernel)
theorem wm_X5_init : Cond.instanceMethod yX5_init ∈ kx_tbl := kx_in (List.mem_of_getElem? (i := 525) (by decide +kernel)) (by decide +kernel)
theorem wc_X5_write : Cond.code mX5_write.1 mX5_write.2.1 mX5_write.2.2.1 mX5_write.2.2.2 ∈ kx_tbl := kx_in (List.mem_of_getElem? (i := 598) (by decide +kernel)) (by decide +kernel)
theorem wm_X5_write : Cond.instanceMethod yX5_write ∈ kx_tbl := kx_in (List.mem_of_getElem? (i := 596) (by decide +kernel)) (by decide +kernel)
theorem ww_X5_write : Cond.selects yX5_write.cls yX5_write yX5_write ∈ kx_tbl := kx_in (List.mem_of_getElem? (i := 597) (by decide +kernel)) (by decide +kernel)
theorem wc_X5_in : Cond.code mX5_in.1 mX5_in.2.1 mX5_in.2.2.1 mX5_in.2.2.2 ∈ kx_tbl := kx_in (List.mem_of_getElem? (i := 602) (by decide +kernel)) (by decide +kernel)
theorem wt_X5_in : Cond.static yX5_in ∈ kx_tbl := kx_in (List.mem_of_getElem? (i := 601) (by decide +kernel)) (by decide +kernel)
theorem wc_X5_wipe : Cond.code mX5_wipe.1 mX5_wipe.2.1 mX5_wipe.2.2.1 mX5_wipe.2.2.2 ∈ kx_tbl := kx_in (List.mem_of_getElem? (i := 606) (by decide +kernel)) (by decide +kernel)
theorem wm_X5_wipe : Cond.instanceMethod yX5_wipe ∈ kx_tbl := kx_in (List.mem_of_getElem? (i := 604) (by decide +kernel)) (by decide +kernel)
theorem ww_X5_wipe : Cond.selects yX5_wipe.cls yX5_wipe yX5_wipe ∈ kx_tbl := kx_in (List.mem_of_getElem? (i := 605) (by decide +kernel)) (by decide +kernel)
theorem wc_X5_fault : Cond.code mX5_fault.1 mX5_fault.2.1 mX5_fault.2.2.1 mX5_fault.2.2.2 ∈ kx_tbl := kx_in (List.mem_of_getElem? (i := 610) (by decide +kernel)) (by decide +kernel)
theorem wm_X5_fault : Cond.instanceMethod yX5_fault ∈ kx_tbl := kx_in (List.mem_of_getElem? (i := 608) (by decide +kernel)) (by decide +kernel)
theorem ww_X5_fault : Cond.selects yX5_fault.cls yX5_fault yX5_fault ∈ kx_tbl := kx_in (List.mem_of_getElem? (i := 609) (by decide +kernel)) (by decide +kernel)
theorem wc_X5_readLand : Cond.code mX5_readLand.1 mX5_readLand.2.1 mX5_readLand.2.2.1 mX5_readLand.2.2.2 ∈ kx_tbl := kx_in (List.mem_of_getElem? (i := 614) (by decide +kernel)) (by decide +kernel)
theorem wm_X5_readLand : Cond.instanceMethod yX5_readLand ∈ kx_tbl := kx_in (List.mem_of_getElem? (i := 613) (by decide +kernel)) (by decide +kernel)
theorem ww_X5_readLand : Cond.selects yX5_readLand.cls yX5_readLand yX5_readLand ∈ kx_tbl := kx_in (List.mem_of_getElem? (i := 11) (by decide +kernel)) (by decide +kernel)
theorem wc_X5_readPart : Cond.code mX5_readPart.1 mX5_readPart.2.1 mX5_readPart.2.2.1 mX5_readPart.2.2.2 ∈ kx_tbl := kx_in (List.mem_of_getElem? (i := 618) (by decide +kernel)) (by decide +kernel)
theorem wm_X5_readPart : Cond.instanceMethod yX5_readPart ∈ kx_tbl := kx_in (List.mem_of_getElem? (i := 617) (by decide +kernel)) (by decide +kernel)
theorem ww_X5_readPart : Cond.selects yX5_readPart.cls yX5_readPart yX5_readPart ∈ kx_tbl := kx_in (List.mem_of_getElem? (i := 12) (by decide +kernel)) (by decide +kernel)
theorem wc_X5_readPerson : Cond.code mX5_readPerson.1 mX5_readPerson.2.1 mX5_readPerson.2.2.1 mX5_readPerson.2.2.2 ∈ kx_tbl := kx_in (List.mem_of_getElem? (i := 622) (by decide +kernel)) (by decide +kernel)
theorem wm_X5_readPerson : Cond.instanceMethod yX5_readPerson ∈ kx_tbl := kx_in (List.mem_of_getElem? (i := 621) (by decide +kernel)) (by decide +kernel)
theorem ww_X5_readPerson : Cond.selects yX5_readPerson.cls yX5_readPerson yX5_readPerson ∈ kx_tbl := kx_in (List.mem_of_getElem? (i := 13) (by decide +kernel)) (by decide +kernel)
theorem wc_X5_figure : Cond.code mX5_figure.1 mX5_figure.2.1 mX5_figure.2.2.1 mX5_figure.2.2.2 ∈ kx_tbl := kx_in (List.mem_of_getElem? (i := 626) (by decide +kernel)) (by decide +kernel)
theorem wm_X5_figure : Cond.instanceMethod yX5_figure ∈ kx_tbl := kx_in (List.mem_of_getElem? (i := 625) (by decide +kernel)) (by decide +kernel)
theorem ww_X5_figure : Cond.selects yX5_figure.cls yX5_figure yX5_figure ∈ kx_tbl := kx_in (List.mem_of_getElem? (i := 14) (by decide +kernel)) (by decide +kernel)
theorem wc_X5_arePairs : Cond.code mX5_arePairs.1 mX5_arePairs.2.1 mX5_arePairs.2.2.1 mX5_arePairs.2.2.2 ∈ kx_tbl := kx_in (List.mem_of_getElem? (i := 630) (by decide +kernel)) (by decide +kernel)
theorem wm_X5_arePairs : Cond.instanceMethod yX5_arePairs ∈ kx_tbl := kx_in (List.mem_of_getElem? (i := 629) (by decide +kernel)) (by decide +kernel)
theorem ww_X5_arePairs : Cond.selects yX5_arePairs.cls yX5_arePairs yX5_arePairs ∈ kx_tbl := kx_in (List.mem_of_getElem? (i := 15) (by decide +kernel)) (by decide +kernel)
theorem wc_X5_pairsOf : Cond.code mX5_pairsOf.1 mX5_pairsOf.2.1 mX5_pairsOf.2.2.1 mX5_pairsOf.2.2.2 ∈ kx_tbl := kx_in (List.mem_of_getElem? (i := 634) (by decide +kernel)) (by decide +kernel)
theorem wm_X5_pairsOf : Cond.instanceMethod yX5_pairsOf ∈ kx_tbl := kx_in (List.mem_of_getElem? (i := 633) (by decide +kernel)) (by decide +kernel)
theorem ww_X5_pairsOf : Cond.selects yX5_pairsOf.cls yX5_pairsOf yX5_pairsOf ∈ kx_tbl := kx_in (List.mem_of_getElem? (i := 16) (by decide +kernel)) (by decide +kernel)
theorem wc_X5_has : Cond.code mX5_has.1 mX5_has.2.1 mX5_has.2.2.1 mX5_has.2.2.2 ∈ kx_tbl := kx_in (List.mem_of_getElem? (i := 637) (by decide +kernel)) (by decide +kernel)
theorem wt_X5_has : Cond.static yX5_has ∈ kx_tbl := kx_in (List.mem_of_getElem? (i := 636) (by decide +kernel)) (by decide +kernel)
theorem wc_X5_readKin : Cond.code mX5_readKin.1 mX5_readKin.2.1 mX5_readKin.2.2.1 mX5_readKin.2.2.2 ∈ kx_tbl := kx_in (List.mem_of_getElem? (i := 641) (by decide +kernel)) (by decide +kernel)
theorem wm_X5_readKin : Cond.instanceMethod yX5_readKin ∈ kx_tbl := kx_in (List.mem_of_getElem? (i := 640) (by decide +kernel)) (by decide +kernel)
theorem ww_X5_readKin : Cond.selects yX5_readKin.cls yX5_readKin yX5_readKin ∈ kx_tbl := kx_in (List.mem_of_getElem? (i := 17) (by decide +kernel)) (by decide +kernel)
theorem wc_X5_land : Cond.code mX5_land.1 mX5_land.2.1 mX5_land.2.2.1 mX5_land.2.2.2 ∈ kx_tbl := kx_in (List.mem_of_getElem? (i := 645) (by decide +kernel)) (by decide +kernel)
theorem wm_X5_land : Cond.instanceMethod yX5_land ∈ kx_tbl := kx_in (List.mem_of_getElem? (i := 643) (by decide +kernel)) (by decide +kernel)
theorem ww_X5_land : Cond.selects yX5_land.cls yX5_land yX5_land ∈ kx_tbl := kx_in (List.mem_of_getElem? (i := 644) (by decide +kernel)) (by decide +kernel)
theorem wc_X5_about : Cond.code mX5_about.1 mX5_about.2.1 mX5_about.2.2.1 mX5_about.2.2.2 ∈ kx_tbl := kx_in (List.mem_of_getElem? (i := 649) (by decide +kernel)) (by decide +kernel)
theorem wm_X5_about : Cond.instanceMethod yX5_about ∈ kx_tbl := kx_in (List.mem_of_getElem? (i := 647) (by decide +kernel)) (by decide +kernel)
theorem ww_X5_about : Cond.selects yX5_about.cls yX5_about yX5_about ∈ kx_tbl := kx_in (List.mem_of_getElem? (i := 648) (by decide +kernel)) (by decide +kernel)
theorem wc_X5_person : Cond.code mX5_person.1 mX5_person.2.1 mX5_person.2.2.1 mX5_person.2.2.2 ∈ kx_tbl := kx_in (List.mem_of_getElem? (i := 653) (by decide +kernel)) (by decide +kernel)
theorem wm_X5_person : Cond.instanceMethod yX5_person ∈ kx_tbl := kx_in (List.mem_of_getElem? (i := 651) (by decide +kernel)) (by decide +kernel)
theorem ww_X5_person : Cond.selects yX5_person.cls yX5_person yX5_person ∈ kx_tbl := kx_in (List.mem_of_getElem? (i := 652) (by decide +kernel)) (by decide +kernel)
theorem wc_X5_noPerson : Cond.code mX5_noPerson.1 mX5_noPerson.2.1 mX5_noPerson.2.2.1 mX5_noPerson.2.2.2 ∈ kx_tbl := kx_in (List.mem_of_getElem? (i := 657) (by decide +kernel)) (by decide +kernel)
theorem wm_X5_noPerson : Cond.instanceMethod yX5_noPerson ∈ kx_tbl := kx_in (List.mem_of_getElem? (i := 656) (by decide +kernel)) (by decide +kernel)
theorem ww_X5_noPerson : Cond.selects yX5_noPerson.cls yX5_noPerson yX5_noPerson ∈ kx_tbl := kx_in (List.mem_of_getElem? (i := 18) (by decide +kernel)) (by decide +kernel)
theorem wc_X5_ouncesOf : Cond.code mX5_ouncesOf.1 mX5_ouncesOf.2.1 mX5_ouncesOf.2.2.1 mX5_ouncesOf.2.2.2 ∈ kx_tbl := kx_in (List.mem_of_getElem? (i := 661) (by decide +kernel)) (by decide +kernel)
theorem wm_X5_ouncesOf : Cond.instanceMethod yX5_ouncesOf ∈ kx_tbl := kx_in (List.mem_of_getElem? (i := 660) (by decide +kernel)) (by decide +kernel)
theorem ww_X5_ouncesOf : Cond.selects yX5_ouncesOf.cls yX5_ouncesOf yX5_ouncesOf ∈ kx_tbl := kx_in (List.mem_of_getElem? (i := 19) (by decide +kernel)) (by decide +kernel)
theorem wc_X5_mayFor : Cond.code mX5_mayFor.1 mX5_mayFor.2.1 mX5_mayFor.2.2.1 mX5_mayFor.2.2.2 ∈ kx_tbl := kx_in (List.mem_of_getElem? (i := 665) (by decide +kernel)) (by decide +kernel)
theorem wm_X5_mayFor : Cond.instanceMethod yX5_mayFor ∈ kx_tbl := kx_in (List.mem_of_getElem? (i := 664) (by decide +kernel)) (by decide +kernel)
theorem ww_X5_mayFor : Cond.selects yX5_mayFor.cls yX5_mayFor yX5_mayFor ∈ kx_tbl := kx_in (List.mem_of_getElem? (i := 20) (by decide +kernel)) (by decide +kernel)
theorem wc_X5_mayWeep : Cond.code mX5_mayWeep.1 mX5_mayWeep.2.1 mX5_mayWeep.2.2.1 mX5_mayWeep.2.2.2 ∈ kx_tbl := kx_in (List.mem_of_getElem? (i := 669) (by decide +kernel)) (by decide +kernel)
theorem wm_X5_mayWeep : Cond.instanceMethod yX5_mayWeep ∈ kx_tbl := kx_in (List.mem_of_getElem? (i := 668) (by decide +kernel)) (by decide +kernel)
theorem ww_X5_mayWeep : Cond.selects yX5_mayWeep.cls yX5_mayWeep yX5_mayWeep ∈ kx_tbl := kx_in (List.mem_of_getElem? (i := 21) (by decide +kernel)) (by decide +kernel)
theorem wc_X5_isFree : Cond.code mX5_isFree.1 mX5_isFree.2.1 mX5_isFree.2.2.1 mX5_isFree.2.2.2 ∈ kx_tbl := kx_in (List.mem_of_getElem? (i := 673) (by decide +kernel)) (by decide +kernel)
theorem wm_X5_isFree : Cond.instanceMethod yX5_isFree ∈ kx_tbl := kx_in (List.mem_of_getElem? (i := 672) (by decide +kernel)) (by decide +kernel)
theorem ww_X5_isFree : Cond.selects yX5_isFree.cls yX5_isFree yX5_isFree ∈ kx_tbl := kx_in (List.mem_of_getElem? (i := 22) (by decide +kernel)) (by decide +kernel)
theorem wc_X5_owes : Cond.code mX5_owes.1 mX5_owes.2.1 mX5_owes.2.2.1 mX5_owes.2.2.2 ∈ kx_tbl := kx_in (List.mem_of_getElem? (i := 677) (by decide +kernel)) (by decide +kernel)
theorem wm_X5_owes : Cond.instanceMethod yX5_owes ∈ kx_tbl := kx_in (List.mem_of_getElem? (i := 675) (by decide +kernel)) (by decide +kernel)
theorem ww_X5_owes : Cond.selects yX5_owes.cls yX5_owes yX5_owes ∈ kx_tbl := kx_in (List.mem_of_getElem? (i := 676) (by decide +kernel)) (by decide +kernel)
theorem wc_X5_funeral : Cond.code mX5_funeral.1 mX5_funeral.2.1 mX5_funeral.2.2.1 mX5_funeral.2.2.2 ∈ kx_tbl := kx_in (List.mem_of_getElem? (i := 681) (by decide +kernel)) (by decide +kernel)
theorem wm_X5_funeral : Cond.instanceMethod yX5_funeral ∈ kx_tbl := kx_in (List.mem_of_getElem? (i := 679) (by decide +kernel)) (by decide +kernel)
theorem ww_X5_funeral : Cond.selects yX5_funeral.cls yX5_funeral yX5_funeral ∈ kx_tbl := kx_in (List.mem_of_getElem? (i := 680) (by decide +kernel)) (by decide +kernel)
theorem wc_X5_note : Cond.code mX5_note.1 mX5_note.2.1 mX5_note.2.2.1 mX5_note.2.2.2 ∈ kx_tbl := kx_in (List.mem_of_getElem? (i := 685) (by decide +kernel)) (by decide +kernel)
theorem wm_X5_note : Cond.instanceMethod yX5_note ∈ kx_tbl := kx_in (List.mem_of_getElem? (i := 684) (by decide +kernel)) (by decide +kernel)
theorem ww_X5_note : Cond.selects yX5_note.cls yX5_note yX5_note ∈ kx_tbl := kx_in (List.mem_of_getElem? (i := 23) (by decide +kernel)) (by decide +kernel)
theorem wc_X5_open : Cond.code mX5_open.1 mX5_open.2.1 mX5_open.2.2.1 mX5_open.2.2.2 ∈ kx_tbl := kx_in (List.mem_of_getElem? (i := 689) (by decide +kernel)) (by decide +kernel)
theorem wm_X5_open : Cond.instanceMethod yX5_open ∈ kx_tbl := kx_in (List.mem_of_getElem? (i := 688) (by decide +kernel)) (by decide +kernel)
theorem ww_X5_open : Cond.selects yX5_open.cls yX5_open yX5_open ∈ kx_tbl := kx_in (List.mem_of_getElem? (i := 24) (by decide +kernel)) (by decide +kernel)
theorem wc_X5_many : Cond.code mX5_many.1 mX5_many.2.1 mX5_many.2.2.1 mX5_many.2.2.2 ∈ kx_tbl := kx_in (List.mem_of_getElem? (i := 692) (by decide +kernel)) (by decide +kernel)
theorem wt_X5_many : Cond.static yX5_many ∈ kx_tbl := kx_in (List.mem_of_getElem? (i := 691) (by decide +kernel)) (by decide +kernel)
theorem wc_X5_weep : Cond.code mX5_weep.1 mX5_weep.2.1 mX5_weep.2.2.1 mX5_weep.2.2.2 ∈ kx_tbl := kx_in (List.mem_of_getElem? (i := 696) (by decide +kernel)) (by decide +kernel)
theorem wm_X5_weep : Cond.instanceMethod yX5_weep ∈ kx_tbl := kx_in (List.mem_of_getElem? (i := 694) (by decide +kernel)) (by decide +kernel)
theorem ww_X5_weep : Cond.selects yX5_weep.cls yX5_weep yX5_weep ∈ kx_tbl := kx_in (List.mem_of_getElem? (i := 695) (by decide +kernel)) (by decide +kernel)
theorem wc_X5_goWeep : Cond.code mX5_goWeep.1 mX5_goWeep.2.1 mX5_goWeep.2.2.1 mX5_goWeep.2.2.2 ∈ kx_tbl := kx_in (List.mem_of_getElem? (i := 700) (by decide +kernel)) (by decide +kernel)
theorem wm_X5_goWeep : Cond.instanceMethod yX5_goWeep ∈ kx_tbl := kx_in (List.mem_of_getElem? (i := 699) (by decide +kernel)) (by decide +kernel)
theorem ww_X5_goWeep : Cond.selects yX5_goWeep.cls yX5_goWeep yX5_goWeep ∈ kx_tbl := kx_in (List.mem_of_getElem? (i := 25) (by decide +kernel)) (by decide +kernel)
theorem wc_X5_close : Cond.code mX5_close.1 mX5_close.2.1 mX5_close.2.2.1 mX5_close.2.2.2 ∈ kx_tbl := kx_in (List.mem_of_getElem? (i := 704) (by decide +kernel)) (by decide +kernel)
theorem wm_X5_close : Cond.instanceMethod yX5_close ∈ kx_tbl := kx_in (List.mem_of_getElem? (i := 703) (by decide +kernel)) (by decide +kernel)
theorem ww_X5_close : Cond.selects yX5_close.cls yX5_close yX5_close ∈ kx_tbl := kx_in (List.mem_of_getElem? (i := 26) (by decide +kernel)) (by decide +kernel)
theorem wc_X5_onions : Cond.code mX5_onions.1 mX5_onions.2.1 mX5_onions.2.2.1 mX5_onions.2.2.2 ∈ kx_tbl := kx_in (List.mem_of_getElem? (i := 708) (by decide +kernel)) (by decide +kernel)
theorem wm_X5_onions : Cond.instanceMethod yX5_onions ∈ kx_tbl := kx_in (List.mem_of_getElem? (i := 706) (by decide +kernel)) (by decide +kernel)
theorem ww_X5_onions : Cond.selects yX5_onions.cls yX5_onions yX5_onions ∈ kx_tbl := kx_in (List.mem_of_getElem? (i := 707) (by decide +kernel)) (by decide +kernel)
theorem wc_X5_week : Cond.code mX5_week.1 mX5_week.2.1 mX5_week.2.2.1 mX5_week.2.2.2 ∈ kx_tbl := kx_in (List.mem_of_getElem? (i := 712) (by decide +kernel)) (by decide +kernel)
theorem wm_X5_week : Cond.instanceMethod yX5_week ∈ kx_tbl := kx_in (List.mem_of_getElem? (i := 710) (by decide +kernel)) (by decide +kernel)
theorem ww_X5_week : Cond.selects yX5_week.cls yX5_week yX5_week ∈ kx_tbl := kx_in (List.mem_of_getElem? (i := 711) (by decide +kernel)) (by decide +kernel)
theorem wc_X5_goWeek : Cond.code mX5_goWeek.1 mX5_goWeek.2.1 mX5_goWeek.2.2.1 mX5_goWeek.2.2.2 ∈ kx_tbl := kx_in (List.mem_of_getElem? (i := 716) (by decide +kernel)) (by decide +kernel)
theorem wm_X5_goWeek : Cond.instanceMethod yX5_goWeek ∈ kx_tbl := kx_in (List.mem_of_getElem? (i := 715) (by decide +kernel)) (by decide +kernel)
theorem ww_X5_goWeek : Cond.selects yX5_goWeek.cls yX5_goWeek yX5_goWeek ∈ kx_tbl := kx_in (List.mem_of_getElem? (i := 27) (by decide +kernel)) (by decide +kernel)
theorem wc_X5_undo : Cond.code mX5_undo.1 mX5_undo.2.1 mX5_undo.2.2.1 mX5_undo.2.2.2 ∈ kx_tbl := kx_in (List.mem_of_getElem? (i := 720) (by decide +kernel)) (by decide +kernel)
theorem wm_X5_undo : Cond.instanceMethod yX5_undo ∈ kx_tbl := kx_in (List.mem_of_getElem? (i := 718) (by decide +kernel)) (by decide +kernel)
theorem ww_X5_undo : Cond.selects yX5_undo.cls yX5_undo yX5_undo ∈ kx_tbl := kx_in (List.mem_of_getElem? (i := 719) (by decide +kernel)) (by decide +kernel)
theorem wc_X5_served : Cond.code mX5_served.1 mX5_served.2.1 mX5_served.2.2.1 mX5_served.2.2.2 ∈ kx_tbl := kx_in (List.mem_of_getElem? (i := 724) (by decide +kernel)) (by decide +kernel)
theorem wm_X5_served : Cond.instanceMethod yX5_served ∈ kx_tbl := kx_in (List.mem_of_getElem? (i := 722) (by decide +kernel)) (by decide +kernel)
theorem ww_X5_served : Cond.selects yX5_served.cls yX5_served yX5_served ∈ kx_tbl := kx_in (List.mem_of_getElem? (i := 723) (by decide +kernel)) (by decide +kernel)
theorem wc_X5_everyone : Cond.code mX5_everyone.1 mX5_everyone.2.1 mX5_everyone.2.2.1 mX5_everyone.2.2.2 ∈ kx_tbl := kx_in (List.mem_of_getElem? (i := 729) (by decide +kernel)) (by decide +kernel)
theorem wm_X5_everyone : Cond.instanceMethod yX5_everyone ∈ kx_tbl := kx_in (List.mem_of_getElem? (i := 728) (by decide +kernel)) (by decide +kernel)
theorem ww_X5_everyone : Cond.selects yX5_everyone.cls yX5_everyone yX5_everyone ∈ kx_tbl := kx_in (List.mem_of_getElem? (i := 28) (by decide +kernel)) (by decide +kernel)
theorem wc_X5_findServed : Cond.code mX5_findServed.1 mX5_findServed.2.1 mX5_findServed.2.2.1 mX5_findServed.2.2.2 ∈ kx_tbl := kx_in (List.mem_of_getElem? (i := 733) (by decide +kernel)) (by decide +kernel)
theorem wm_X5_findServed : Cond.instanceMethod yX5_findServed ∈ kx_tbl := kx_in (List.mem_of_getElem? (i := 732) (by decide +kernel)) (by decide +kernel)
theorem ww_X5_findServed : Cond.selects yX5_findServed.cls yX5_findServed yX5_findServed ∈ kx_tbl := kx_in (List.mem_of_getElem? (i := 29) (by decide +kernel)) (by decide +kernel)
theorem wc_X5_power : Cond.code mX5_power.1 mX5_power.2.1 mX5_power.2.2.1 mX5_power.2.2.2 ∈ kx_tbl := kx_in (List.mem_of_getElem? (i := 736) (by decide +kernel)) (by decide +kernel)
theorem wt_X5_power : Cond.static yX5_power ∈ kx_tbl := kx_in (List.mem_of_getElem? (i := 735) (by decide +kernel)) (by decide +kernel)
theorem wc_X5_nobody : Cond.code mX5_nobody.1 mX5_nobody.2.1 mX5_nobody.2.2.1 mX5_nobody.2.2.2 ∈ kx_tbl := kx_in (List.mem_of_getElem? (i := 740) (by decide +kernel)) (by decide +kernel)
theorem wm_X5_nobody : Cond.instanceMethod yX5_nobody ∈ kx_tbl := kx_in (List.mem_of_getElem? (i := 738) (by decide +kernel)) (by decide +kernel)
theorem ww_X5_nobody : Cond.selects yX5_nobody.cls yX5_nobody yX5_nobody ∈ kx_tbl := kx_in (List.mem_of_getElem? (i := 739) (by decide +kernel)) (by decide +kernel)
theorem wc_X5_till : Cond.code mX5_till.1 mX5_till.2.1 mX5_till.2.2.1 mX5_till.2.2.2 ∈ kx_tbl := kx_in (List.mem_of_getElem? (i := 744) (by decide +kernel)) (by decide +kernel)
theorem wm_X5_till : Cond.instanceMethod yX5_till ∈ kx_tbl := kx_in (List.mem_of_getElem? (i := 742) (by decide +kernel)) (by decide +kernel)
theorem ww_X5_till : Cond.selects yX5_till.cls yX5_till yX5_till ∈ kx_tbl := kx_in (List.mem_of_getElem? (i := 743) (by decide +kernel)) (by decide +kernel)
theorem wc_X5_begin : Cond.code mX5_begin.1 mX5_begin.2.1 mX5_begin.2.2.1 mX5_begin.2.2.2 ∈ kx_tbl := kx_in (List.mem_of_getElem? (i := 748) (by decide +kernel)) (by decide +kernel)
theorem wm_X5_begin : Cond.instanceMethod yX5_begin ∈ kx_tbl := kx_in (List.mem_of_getElem? (i := 747) (by decide +kernel)) (by decide +kernel)
theorem ww_X5_begin : Cond.selects yX5_begin.cls yX5_begin yX5_begin ∈ kx_tbl := kx_in (List.mem_of_getElem? (i := 30) (by decide +kernel)) (by decide +kernel)
theorem wc_X5_net : Cond.code mX5_net.1 mX5_net.2.1 mX5_net.2.2.1 mX5_net.2.2.2 ∈ kx_tbl := kx_in (List.mem_of_getElem? (i := 752) (by decide +kernel)) (by decide +kernel)
theorem wm_X5_net : Cond.instanceMethod yX5_net ∈ kx_tbl := kx_in (List.mem_of_getElem? (i := 750) (by decide +kernel)) (by decide +kernel)
theorem ww_X5_net : Cond.selects yX5_net.cls yX5_net yX5_net ∈ kx_tbl := kx_in (List.mem_of_getElem? (i := 751) (by decide +kernel)) (by decide +kernel)
theorem wc_X5_ring : Cond.code mX5_ring.1 mX5_ring.2.1 mX5_ring.2.2.1 mX5_ring.2.2.2 ∈ kx_tbl := kx_in (List.mem_of_getElem? (i := 756) (by decide +kernel)) (by decide +kernel)
theorem wm_X5_ring : Cond.instanceMethod yX5_ring ∈ kx_tbl := kx_in (List.mem_of_getElem? (i := 754) (by decide +kernel)) (by decide +kernel)
theorem ww_X5_ring : Cond.selects yX5_ring.cls yX5_ring yX5_ring ∈ kx_tbl := kx_in (List.mem_of_getElem? (i := 755) (by decide +kernel)) (by decide +kernel)
theorem wc_X5_share : Cond.code mX5_share.1 mX5_share.2.1 mX5_share.2.2.1 mX5_share.2.2.2 ∈ kx_tbl := kx_in (List.mem_of_getElem? (i := 760) (by decide +kernel)) (by decide +kernel)
theorem wm_X5_share : Cond.instanceMethod yX5_share ∈ kx_tbl := kx_in (List.mem_of_getElem? (i := 758) (by decide +kernel)) (by decide +kernel)
theorem ww_X5_share : Cond.selects yX5_share.cls yX5_share yX5_share ∈ kx_tbl := kx_in (List.mem_of_getElem? (i := 759) (by decide +kernel)) (by decide +kernel)
theorem wc_X5_orders : Cond.code mX5_orders.1 mX5_orders.2.1 mX5_orders.2.2.1 mX5_orders.2.2.2 ∈ kx_tbl := kx_in (List.mem_of_getElem? (i := 763) (by decide +kernel)) (by decide +kernel)
theorem wt_X5_orders : Cond.static yX5_orders ∈ kx_tbl := kx_in (List.mem_of_getElem? (i := 762) (by decide +kernel)) (by decide +kernel)
theorem wc_X5_fraction : Cond.code mX5_fraction.1 mX5_fraction.2.1 mX5_fraction.2.2.1 mX5_fraction.2.2.2 ∈ kx_tbl := kx_in (List.mem_of_getElem? (i := 766) (by decide +kernel)) (by decide +kernel)
theorem wt_X5_fraction : Cond.static yX5_fraction ∈ kx_tbl := kx_in (List.mem_of_getElem? (i := 765) (by decide +kernel)) (by decide +kernel)
theorem wc_X5_divisor : Cond.code mX5_divisor.1 mX5_divisor.2.1 mX5_divisor.2.2.1 mX5_divisor.2.2.2 ∈ kx_tbl := kx_in (List.mem_of_getElem? (i := 769) (by decide +kernel)) (by decide +kernel)
theorem wt_X5_divisor : Cond.static yX5_divisor ∈ kx_tbl := kx_in (List.mem_of_getElem? (i := 768) (by decide +kernel)) (by decide +kernel)
theorem wc_X5_weighed : Cond.code mX5_weighed.1 mX5_weighed.2.1 mX5_weighed.2.2.1 mX5_weighed.2.2.2 ∈ kx_tbl := kx_in (List.mem_of_getElem? (i := 773) (by decide +kernel)) (by decide +kernel)
theorem wm_X5_weighed : Cond.instanceMethod yX5_weighed ∈ kx_tbl := kx_in (List.mem_of_getElem? (i := 771) (by decide +kernel)) (by decide +kernel)
theorem ww_X5_weighed : Cond.selects yX5_weighed.cls yX5_weighed yX5_weighed ∈ kx_tbl := kx_in (List.mem_of_getElem? (i := 772) (by decide +kernel)) (by decide +kernel)
theorem wc_X5_whose : Cond.code mX5_whose.1 mX5_whose.2.1 mX5_whose.2.2.1 mX5_whose.2.2.2 ∈ kx_tbl := kx_in (List.mem_of_getElem? (i := 778) (by decide +kernel)) (by decide +kernel)
theorem wm_X5_whose : Cond.instanceMethod yX5_whose ∈ kx_tbl := kx_in (List.mem_of_getElem? (i := 776) (by decide +kernel)) (by decide +kernel)
theorem ww_X5_whose : Cond.selects yX5_whose.cls yX5_whose yX5_whose ∈ kx_tbl := kx_in (List.mem_of_getElem? (i := 777) (by decide +kernel)) (by decide +kernel)
theorem wc_X5_rests : Cond.code mX5_rests.1 mX5_rests.2.1 mX5_rests.2.2.1 mX5_rests.2.2.2 ∈ kx_tbl := kx_in (List.mem_of_getElem? (i := 783) (by decide +kernel)) (by decide +kernel)
theorem wm_X5_rests : Cond.instanceMethod yX5_rests ∈ kx_tbl := kx_in (List.mem_of_getElem? (i := 781) (by decide +kernel)) (by decide +kernel)
theorem ww_X5_rests : Cond.selects yX5_rests.cls yX5_rests yX5_rests ∈ kx_tbl := kx_in (List.mem_of_getElem? (i := 782) (by decide +kernel)) (by decide +kernel)
theorem wc_X5_findRests : Cond.code mX5_findRests.1 mX5_findRests.2.1 mX5_findRests.2.2.1 mX5_findRests.2.2.2 ∈ kx_tbl := kx_in (List.mem_of_getElem? (i := 787) (by decide +kernel)) (by decide +kernel)
theorem wm_X5_findRests : Cond.instanceMethod yX5_findRests ∈ kx_tbl := kx_in (List.mem_of_getElem? (i := 786) (by decide +kernel)) (by decide +kernel)
theorem ww_X5_findRests : Cond.selects yX5_findRests.cls yX5_findRests yX5_findRests ∈ kx_tbl := kx_in (List.mem_of_getElem? (i := 31) (by decide +kernel)) (by decide +kernel)
theorem wc_X5_gainOf : Cond.code mX5_gainOf.1 mX5_gainOf.2.1 mX5_gainOf.2.2.1 mX5_gainOf.2.2.2 ∈ kx_tbl := kx_in (List.mem_of_getElem? (i := 791) (by decide +kernel)) (by decide +kernel)
theorem wm_X5_gainOf : Cond.instanceMethod yX5_gainOf ∈ kx_tbl := kx_in (List.mem_of_getElem? (i := 790) (by decide +kernel)) (by decide +kernel)
theorem ww_X5_gainOf : Cond.selects yX5_gainOf.cls yX5_gainOf yX5_gainOf ∈ kx_tbl := kx_in (List.mem_of_getElem? (i := 32) (by decide +kernel)) (by decide +kernel)
theorem wc_X5_chance : Cond.code mX5_chance.1 mX5_chance.2.1 mX5_chance.2.2.1 mX5_chance.2.2.2 ∈ kx_tbl := kx_in (List.mem_of_getElem? (i := 795) (by decide +kernel)) (by decide +kernel)
theorem wm_X5_chance : Cond.instanceMethod yX5_chance ∈ kx_tbl := kx_in (List.mem_of_getElem? (i := 793) (by decide +kernel)) (by decide +kernel)
theorem ww_X5_chance : Cond.selects yX5_chance.cls yX5_chance yX5_chance ∈ kx_tbl := kx_in (List.mem_of_getElem? (i := 794) (by decide +kernel)) (by decide +kernel)
theorem wc_X5_seed : Cond.code mX5_seed.1 mX5_seed.2.1 mX5_seed.2.2.1 mX5_seed.2.2.2 ∈ kx_tbl := kx_in (List.mem_of_getElem? (i := 800) (by decide +kernel)) (by decide +kernel)
theorem wm_X5_seed : Cond.instanceMethod yX5_seed ∈ kx_tbl := kx_in (List.mem_of_getElem? (i := 798) (by decide +kernel)) (by decide +kernel)
theorem ww_X5_seed : Cond.selects yX5_seed.cls yX5_seed yX5_seed ∈ kx_tbl := kx_in (List.mem_of_getElem? (i := 799) (by decide +kernel)) (by decide +kernel)
theorem wc_X5_years : Cond.code mX5_years.1 mX5_years.2.1 mX5_years.2.2.1 mX5_years.2.2.2 ∈ kx_tbl := kx_in (List.mem_of_getElem? (i := 804) (by decide +kernel)) (by decide +kernel)
theorem wm_X5_years : Cond.instanceMethod yX5_years ∈ kx_tbl := kx_in (List.mem_of_getElem? (i := 802) (by decide +kernel)) (by decide +kernel)
theorem ww_X5_years : Cond.selects yX5_years.cls yX5_years yX5_years ∈ kx_tbl := kx_in (List.mem_of_getElem? (i := 803) (by decide +kernel)) (by decide +kernel)
theorem wc_X5_keep : Cond.code mX5_keep.1 mX5_keep.2.1 mX5_keep.2.2.1 mX5_keep.2.2.2 ∈ kx_tbl := kx_in (List.mem_of_getElem? (i := 812) (by decide +kernel)) (by decide +kernel)
theorem wm_X5_keep : Cond.instanceMethod yX5_keep ∈ kx_tbl := kx_in (List.mem_of_getElem? (i := 810) (by decide +kernel)) (by decide +kernel)
theorem ww_X5_keep : Cond.selects yX5_keep.cls yX5_keep yX5_keep ∈ kx_tbl := kx_in (List.mem_of_getElem? (i := 811) (by decide +kernel)) (by decide +kernel)
theorem wc_X5_again : Cond.code mX5_again.1 mX5_again.2.1 mX5_again.2.2.1 mX5_again.2.2.2 ∈ kx_tbl := kx_in (List.mem_of_getElem? (i := 816) (by decide +kernel)) (by decide +kernel)
theorem wm_X5_again : Cond.instanceMethod yX5_again ∈ kx_tbl := kx_in (List.mem_of_getElem? (i := 814) (by decide +kernel)) (by decide +kernel)
theorem ww_X5_again : Cond.selects yX5_again.cls yX5_again yX5_again ∈ kx_tbl := kx_in (List.mem_of_getElem? (i := 815) (by decide +kernel)) (by decide +kernel)
theorem fl_X2_9 : kx_fl RX2 9 2 0 true (.array (.int)) := ⟨RX2, TX2, 9, kc_2, by decide, kx_in (List.mem_of_getElem? (i := 63) (by decide +kernel)) (by decide +kernel), rfl, rfl, by decide +kernel⟩
theorem fl_X4_93 : kx_fl RX4 93 2 0 true (.array (.int)) := ⟨RX2, TX2, 9, kc_2, by decide, kx_in (List.mem_of_getElem? (i := 64) (by decide +kernel)) (by decide +kernel), rfl, rfl, by decide +kernel⟩
theorem fl_X2_15 : kx_fl RX2 15 2 1 true (.array (.int)) := ⟨RX2, TX2, 9, kc_2, by decide, kx_in (List.mem_of_getElem? (i := 65) (by decide +kernel)) (by decide +kernel), rfl, rfl, by decide +kernel⟩
theorem fl_X4_97 : kx_fl RX4 97 2 1 true (.array (.int)) := ⟨RX2, TX2, 9, kc_2, by decide, kx_in (List.mem_of_getElem? (i := 66) (by decide +kernel)) (by decide +kernel), rfl, rfl, by decide +kernel⟩
theorem fl_X2_18 : kx_fl RX2 18 2 2 true (.array (.int)) := ⟨RX2, TX2, 9, kc_2, by decide, kx_in (List.mem_of_getElem? (i := 67) (by decide +kernel)) (by decide +kernel), rfl, rfl, by decide +kernel⟩
theorem fl_X4_100 : kx_fl RX4 100 2 2 true (.array (.int)) := ⟨RX2, TX2, 9, kc_2, by decide, kx_in (List.mem_of_getElem? (i := 68) (by decide +kernel)) (by decide +kernel), rfl, rfl, by decide +kernel⟩
theorem fl_X2_21 : kx_fl RX2 21 2 3 true (.array (.int)) := ⟨RX2, TX2, 9, kc_2, by decide, kx_in (List.mem_of_getElem? (i := 69) (by decide +kernel)) (by decide +kernel), rfl, rfl, by decide +kernel⟩
theorem fl_X4_103 : kx_fl RX4 103 2 3 true (.array (.int)) := ⟨RX2, TX2, 9, kc_2, by decide, kx_in (List.mem_of_getElem? (i := 70) (by decide +kernel)) (by decide +kernel), rfl, rfl, by decide +kernel⟩
theorem fl_X2_24 : kx_fl RX2 24 2 4 true (.array (.int)) := ⟨RX2, TX2, 9, kc_2, by decide, kx_in (List.mem_of_getElem? (i := 71) (by decide +kernel)) (by decide +kernel), rfl, rfl, by decide +kernel⟩
theorem fl_X2_33 : kx_fl RX2 33 2 5 false (.int) := ⟨RX2, TX2, 9, kc_2, by decide, kx_in (List.mem_of_getElem? (i := 72) (by decide +kernel)) (by decide +kernel), rfl, rfl, by decide +kernel⟩
theorem fl_X4_74 : kx_fl RX4 74 2 5 false (.int) := ⟨RX2, TX2, 9, kc_2, by decide, kx_in (List.mem_of_getElem? (i := 73) (by decide +kernel)) (by decide +kernel), rfl, rfl, by decide +kernel⟩
theorem fl_X1_39 : kx_fl RX1 39 2 5 false (.int) := ⟨RX2, TX2, 9, kc_2, by decide, kx_in (List.mem_of_getElem? (i := 74) (by decide +kernel)) (by decide +kernel), rfl, rfl, by decide +kernel⟩
theorem fl_X2_37 : kx_fl RX2 37 2 6 false (.int) := ⟨RX2, TX2, 9, kc_2, by decide, kx_in (List.mem_of_getElem? (i := 75) (by decide +kernel)) (by decide +kernel), rfl, rfl, by decide +kernel⟩
theorem fl_X4_77 : kx_fl RX4 77 2 6 false (.int) := ⟨RX2, TX2, 9, kc_2, by decide, kx_in (List.mem_of_getElem? (i := 76) (by decide +kernel)) (by decide +kernel), rfl, rfl, by decide +kernel⟩
theorem fl_X2_40 : kx_fl RX2 40 2 7 false (.int) := ⟨RX2, TX2, 9, kc_2, by decide, kx_in (List.mem_of_getElem? (i := 77) (by decide +kernel)) (by decide +kernel), rfl, rfl, by decide +kernel⟩
theorem fl_X4_83 : kx_fl RX4 83 2 7 false (.int) := ⟨RX2, TX2, 9, kc_2, by decide, kx_in (List.mem_of_getElem? (i := 78) (by decide +kernel)) (by decide +kernel), rfl, rfl, by decide +kernel⟩
theorem fl_X2_43 : kx_fl RX2 43 2 8 false (.int) := ⟨RX2, TX2, 9, kc_2, by decide, kx_in (List.mem_of_getElem? (i := 79) (by decide +kernel)) (by decide +kernel), rfl, rfl, by decide +kernel⟩
theorem fl_X4_80 : kx_fl RX4 80 2 8 false (.int) := ⟨RX2, TX2, 9, kc_2, by decide, kx_in (List.mem_of_getElem? (i := 80) (by decide +kernel)) (by decide +kernel), rfl, rfl, by decide +kernel⟩
theorem fl_X1_9 : kx_fl RX1 9 1 0 true (.array (.int)) := ⟨RX1, TX1, 3, kc_1, by decide, kx_in (List.mem_of_getElem? (i := 101) (by decide +kernel)) (by decide +kernel), rfl, rfl, by decide +kernel⟩
theorem fl_X1_18 : kx_fl RX1 18 1 1 true (.object "BorrowedTears$People") := ⟨RX1, TX1, 3, kc_1, by decide, kx_in (List.mem_of_getElem? (i := 102) (by decide +kernel)) (by decide +kernel), rfl, rfl, by decide +kernel⟩
theorem fl_X4_64 : kx_fl RX4 64 1 1 true (.object "BorrowedTears$People") := ⟨RX1, TX1, 3, kc_1, by decide, kx_in (List.mem_of_getElem? (i := 103) (by decide +kernel)) (by decide +kernel), rfl, rfl, by decide +kernel⟩
theorem fl_X1_22 : kx_fl RX1 22 1 2 false (.int) := ⟨RX1, TX1, 3, kc_1, by decide, kx_in (List.mem_of_getElem? (i := 104) (by decide +kernel)) (by decide +kernel), rfl, rfl, by decide +kernel⟩
theorem fl_X4_56 : kx_fl RX4 56 1 2 false (.int) := ⟨RX1, TX1, 3, kc_1, by decide, kx_in (List.mem_of_getElem? (i := 105) (by decide +kernel)) (by decide +kernel), rfl, rfl, by decide +kernel⟩
theorem fl_X0_11 : kx_fl RX0 11 0 0 true (.array (.object "BorrowedTears$People")) := ⟨RX0, TX0, 3, kc_0, by decide, kx_in (List.mem_of_getElem? (i := 124) (by decide +kernel)) (by decide +kernel), rfl, rfl, by decide +kernel⟩
theorem fl_X0_18 : kx_fl RX0 18 0 1 false (.int) := ⟨RX0, TX0, 3, kc_0, by decide, kx_in (List.mem_of_getElem? (i := 125) (by decide +kernel)) (by decide +kernel), rfl, rfl, by decide +kernel⟩
theorem fl_X0_22 : kx_fl RX0 22 0 2 false (.int) := ⟨RX0, TX0, 3, kc_0, by decide, kx_in (List.mem_of_getElem? (i := 126) (by decide +kernel)) (by decide +kernel), rfl, rfl, by decide +kernel⟩
theorem fl_X4_86 : kx_fl RX4 86 0 2 false (.int) := ⟨RX0, TX0, 3, kc_0, by decide, kx_in (List.mem_of_getElem? (i := 127) (by decide +kernel)) (by decide +kernel), rfl, rfl, by decide +kernel⟩
theorem fl_X3_9 : kx_fl RX3 9 3 0 false (.int) := ⟨RX3, TX3, 4, kc_3, by decide, kx_in (List.mem_of_getElem? (i := 141) (by decide +kernel)) (by decide +kernel), rfl, rfl, by decide +kernel⟩
theorem fl_X3_15 : kx_fl RX3 15 3 1 false (.int) := ⟨RX3, TX3, 4, kc_3, by decide, kx_in (List.mem_of_getElem? (i := 142) (by decide +kernel)) (by decide +kernel), rfl, rfl, by decide +kernel⟩
theorem fl_X4_159 : kx_fl RX4 159 3 1 false (.int) := ⟨RX3, TX3, 4, kc_3, by decide, kx_in (List.mem_of_getElem? (i := 143) (by decide +kernel)) (by decide +kernel), rfl, rfl, by decide +kernel⟩
theorem fl_X3_18 : kx_fl RX3 18 3 2 false (.int) := ⟨RX3, TX3, 4, kc_3, by decide, kx_in (List.mem_of_getElem? (i := 144) (by decide +kernel)) (by decide +kernel), rfl, rfl, by decide +kernel⟩
theorem fl_X4_162 : kx_fl RX4 162 3 2 false (.int) := ⟨RX3, TX3, 4, kc_3, by decide, kx_in (List.mem_of_getElem? (i := 145) (by decide +kernel)) (by decide +kernel), rfl, rfl, by decide +kernel⟩
theorem fl_X3_21 : kx_fl RX3 21 3 3 false (.int) := ⟨RX3, TX3, 4, kc_3, by decide, kx_in (List.mem_of_getElem? (i := 146) (by decide +kernel)) (by decide +kernel), rfl, rfl, by decide +kernel⟩
theorem fl_X4_164 : kx_fl RX4 164 3 3 false (.int) := ⟨RX3, TX3, 4, kc_3, by decide, kx_in (List.mem_of_getElem? (i := 147) (by decide +kernel)) (by decide +kernel), rfl, rfl, by decide +kernel⟩
theorem fl_X4_10 : kx_fl RX4 10 4 0 true (.object "BorrowedTears$LandText") := ⟨RX4, TX4, 8, kc_4, by decide, kx_in (List.mem_of_getElem? (i := 158) (by decide +kernel)) (by decide +kernel), rfl, rfl, by decide +kernel⟩
theorem fl_X4_19 : kx_fl RX4 19 4 1 true (.object "BorrowedTears$People") := ⟨RX4, TX4, 8, kc_4, by decide, kx_in (List.mem_of_getElem? (i := 159) (by decide +kernel)) (by decide +kernel), rfl, rfl, by decide +kernel⟩
theorem fl_X4_23 : kx_fl RX4 23 4 2 true (.object "BorrowedTears$People") := ⟨RX4, TX4, 8, kc_4, by decide, kx_in (List.mem_of_getElem? (i := 160) (by decide +kernel)) (by decide +kernel), rfl, rfl, by decide +kernel⟩
theorem fl_X4_29 : kx_fl RX4 29 4 3 true (.object "BorrowedTears$Acts") := ⟨RX4, TX4, 8, kc_4, by decide, kx_in (List.mem_of_getElem? (i := 161) (by decide +kernel)) (by decide +kernel), rfl, rfl, by decide +kernel⟩
theorem fl_X4_33 : kx_fl RX4 33 4 4 true (.array (.object "BorrowedTears$People")) := ⟨RX4, TX4, 8, kc_4, by decide, kx_in (List.mem_of_getElem? (i := 162) (by decide +kernel)) (by decide +kernel), rfl, rfl, by decide +kernel⟩
theorem fl_X4_37 : kx_fl RX4 37 4 5 true (.array (.boolean)) := ⟨RX4, TX4, 8, kc_4, by decide, kx_in (List.mem_of_getElem? (i := 163) (by decide +kernel)) (by decide +kernel), rfl, rfl, by decide +kernel⟩
theorem fl_X4_44 : kx_fl RX4 44 4 6 true (.object "BorrowedTears$Service") := ⟨RX4, TX4, 8, kc_4, by decide, kx_in (List.mem_of_getElem? (i := 164) (by decide +kernel)) (by decide +kernel), rfl, rfl, by decide +kernel⟩
theorem fl_X4_48 : kx_fl RX4 48 4 7 false (.long) := ⟨RX4, TX4, 8, kc_4, by decide, kx_in (List.mem_of_getElem? (i := 165) (by decide +kernel)) (by decide +kernel), rfl, rfl, by decide +kernel⟩
theorem fs_X4_225 : Cond.fieldLink RX4 225 "BorrowedTears" "FACTORIALS" "[I" ∈ kx_tbl := kx_in (List.mem_of_getElem? (i := 453) (by decide +kernel)) (by decide +kernel)
theorem fl_X5_41 : kx_fl RX5 41 5 0 false (.int) := ⟨RX5, TX5, 22, kc_5, by decide, kx_in (List.mem_of_getElem? (i := 528) (by decide +kernel)) (by decide +kernel), rfl, rfl, by decide +kernel⟩
theorem fl_X5_7 : kx_fl RX5 7 5 1 true (.array (.int)) := ⟨RX5, TX5, 22, kc_5, by decide, kx_in (List.mem_of_getElem? (i := 529) (by decide +kernel)) (by decide +kernel), rfl, rfl, by decide +kernel⟩
theorem fl_X5_54 : kx_fl RX5 54 5 2 false (.int) := ⟨RX5, TX5, 22, kc_5, by decide, kx_in (List.mem_of_getElem? (i := 530) (by decide +kernel)) (by decide +kernel), rfl, rfl, by decide +kernel⟩
theorem fl_X5_57 : kx_fl RX5 57 5 3 false (.int) := ⟨RX5, TX5, 22, kc_5, by decide, kx_in (List.mem_of_getElem? (i := 531) (by decide +kernel)) (by decide +kernel), rfl, rfl, by decide +kernel⟩
theorem fl_X5_45 : kx_fl RX5 45 5 4 false (.int) := ⟨RX5, TX5, 22, kc_5, by decide, kx_in (List.mem_of_getElem? (i := 532) (by decide +kernel)) (by decide +kernel), rfl, rfl, by decide +kernel⟩
theorem fl_X5_13 : kx_fl RX5 13 5 5 true (.array (.int)) := ⟨RX5, TX5, 22, kc_5, by decide, kx_in (List.mem_of_getElem? (i := 533) (by decide +kernel)) (by decide +kernel), rfl, rfl, by decide +kernel⟩
theorem fl_X5_60 : kx_fl RX5 60 5 6 false (.int) := ⟨RX5, TX5, 22, kc_5, by decide, kx_in (List.mem_of_getElem? (i := 534) (by decide +kernel)) (by decide +kernel), rfl, rfl, by decide +kernel⟩
theorem fl_X5_16 : kx_fl RX5 16 5 7 true (.array (.int)) := ⟨RX5, TX5, 22, kc_5, by decide, kx_in (List.mem_of_getElem? (i := 535) (by decide +kernel)) (by decide +kernel), rfl, rfl, by decide +kernel⟩
theorem fl_X5_19 : kx_fl RX5 19 5 8 true (.array (.int)) := ⟨RX5, TX5, 22, kc_5, by decide, kx_in (List.mem_of_getElem? (i := 536) (by decide +kernel)) (by decide +kernel), rfl, rfl, by decide +kernel⟩
theorem fl_X5_22 : kx_fl RX5 22 5 9 true (.array (.int)) := ⟨RX5, TX5, 22, kc_5, by decide, kx_in (List.mem_of_getElem? (i := 537) (by decide +kernel)) (by decide +kernel), rfl, rfl, by decide +kernel⟩
theorem fl_X5_25 : kx_fl RX5 25 5 10 true (.array (.int)) := ⟨RX5, TX5, 22, kc_5, by decide, kx_in (List.mem_of_getElem? (i := 538) (by decide +kernel)) (by decide +kernel), rfl, rfl, by decide +kernel⟩
theorem fl_X5_28 : kx_fl RX5 28 5 11 true (.array (.int)) := ⟨RX5, TX5, 22, kc_5, by decide, kx_in (List.mem_of_getElem? (i := 539) (by decide +kernel)) (by decide +kernel), rfl, rfl, by decide +kernel⟩
theorem fl_X5_90 : kx_fl RX5 90 5 12 false (.int) := ⟨RX5, TX5, 22, kc_5, by decide, kx_in (List.mem_of_getElem? (i := 540) (by decide +kernel)) (by decide +kernel), rfl, rfl, by decide +kernel⟩
theorem fl_X5_31 : kx_fl RX5 31 5 13 true (.array (.int)) := ⟨RX5, TX5, 22, kc_5, by decide, kx_in (List.mem_of_getElem? (i := 541) (by decide +kernel)) (by decide +kernel), rfl, rfl, by decide +kernel⟩
theorem fl_X5_34 : kx_fl RX5 34 5 14 true (.array (.boolean)) := ⟨RX5, TX5, 22, kc_5, by decide, kx_in (List.mem_of_getElem? (i := 542) (by decide +kernel)) (by decide +kernel), rfl, rfl, by decide +kernel⟩
theorem fl_X5_186 : kx_fl RX5 186 5 15 false (.long) := ⟨RX5, TX5, 22, kc_5, by decide, kx_in (List.mem_of_getElem? (i := 543) (by decide +kernel)) (by decide +kernel), rfl, rfl, by decide +kernel⟩
theorem fl_X5_133 : kx_fl RX5 133 5 16 false (.int) := ⟨RX5, TX5, 22, kc_5, by decide, kx_in (List.mem_of_getElem? (i := 544) (by decide +kernel)) (by decide +kernel), rfl, rfl, by decide +kernel⟩
theorem fl_X5_136 : kx_fl RX5 136 5 17 false (.int) := ⟨RX5, TX5, 22, kc_5, by decide, kx_in (List.mem_of_getElem? (i := 545) (by decide +kernel)) (by decide +kernel), rfl, rfl, by decide +kernel⟩
theorem fl_X5_139 : kx_fl RX5 139 5 18 false (.int) := ⟨RX5, TX5, 22, kc_5, by decide, kx_in (List.mem_of_getElem? (i := 546) (by decide +kernel)) (by decide +kernel), rfl, rfl, by decide +kernel⟩
theorem fl_X5_38 : kx_fl RX5 38 5 19 true (.array (.int)) := ⟨RX5, TX5, 22, kc_5, by decide, kx_in (List.mem_of_getElem? (i := 547) (by decide +kernel)) (by decide +kernel), rfl, rfl, by decide +kernel⟩
theorem fl_X5_170 : kx_fl RX5 170 5 20 false (.int) := ⟨RX5, TX5, 22, kc_5, by decide, kx_in (List.mem_of_getElem? (i := 548) (by decide +kernel)) (by decide +kernel), rfl, rfl, by decide +kernel⟩
theorem fl_X5_173 : kx_fl RX5 173 5 21 false (.int) := ⟨RX5, TX5, 22, kc_5, by decide, kx_in (List.mem_of_getElem? (i := 549) (by decide +kernel)) (by decide +kernel), rfl, rfl, by decide +kernel⟩
theorem fc_X4_202 : Cond.constantLong RX4 202 6364136223846793005 ∈ kx_tbl := kx_in (List.mem_of_getElem? (i := 511) (by decide +kernel)) (by decide +kernel)
theorem fc_X4_204 : Cond.constantLong RX4 204 1442695040888963407 ∈ kx_tbl := kx_in (List.mem_of_getElem? (i := 512) (by decide +kernel)) (by decide +kernel)
theorem fc_X4_206 : Cond.constantLong RX4 206 50 ∈ kx_tbl := kx_in (List.mem_of_getElem? (i := 513) (by decide +kernel)) (by decide +kernel)
theorem fc_X5_52 : Cond.constantLong RX5 52 255 ∈ kx_tbl := kx_in (List.mem_of_getElem? (i := 599) (by decide +kernel)) (by decide +kernel)
theorem fc_X5_145 : Cond.constantLong RX5 145 2 ∈ kx_tbl := kx_in (List.mem_of_getElem? (i := 725) (by decide +kernel)) (by decide +kernel)
theorem fc_X5_166 : Cond.constantLong RX5 166 45 ∈ kx_tbl := kx_in (List.mem_of_getElem? (i := 774) (by decide +kernel)) (by decide +kernel)
theorem fc_X5_168 : Cond.constantLong RX5 168 9 ∈ kx_tbl := kx_in (List.mem_of_getElem? (i := 779) (by decide +kernel)) (by decide +kernel)
theorem fc_X5_184 : Cond.constantLong RX5 184 10 ∈ kx_tbl := kx_in (List.mem_of_getElem? (i := 796) (by decide +kernel)) (by decide +kernel)
theorem fc_X5_190 : Cond.constantLong RX5 190 20 ∈ kx_tbl := kx_in (List.mem_of_getElem? (i := 805) (by decide +kernel)) (by decide +kernel)
theorem fc_X5_192 : Cond.constantLong RX5 192 6364136223846793005 ∈ kx_tbl := kx_in (List.mem_of_getElem? (i := 806) (by decide +kernel)) (by decide +kernel)
theorem fc_X5_194 : Cond.constantLong RX5 194 1442695040888963407 ∈ kx_tbl := kx_in (List.mem_of_getElem? (i := 807) (by decide +kernel)) (by decide +kernel)
theorem fc_X5_196 : Cond.constantLong RX5 196 50 ∈ kx_tbl := kx_in (List.mem_of_getElem? (i := 808) (by decide +kernel)) (by decide +kernel)
theorem fc_L_107 : Cond.constantLong RL 107 4294967295 ∈ kx_tbl := kx_in (List.mem_of_getElem? (i := 817) (by decide +kernel)) (by decide +kernel)
theorem lk_L_9 : kx_lI RL 9 mX4_init 0 := ⟨⟨wc_X4_init, wi_RX4, by decide +kernel, by decide +kernel, by decide +kernel, by decide⟩, kx_in (List.mem_of_getElem? (i := 45) (by decide +kernel)) (by decide +kernel), wm_X4_init, rfl⟩
theorem lk_X4_28 : kx_lI RX4 28 mX0_init 0 := ⟨⟨wc_X0_init, wi_RX0, by decide +kernel, by decide +kernel, by decide +kernel, by decide⟩, kx_in (List.mem_of_getElem? (i := 117) (by decide +kernel)) (by decide +kernel), wm_X0_init, rfl⟩
theorem lk_L_13 : kx_lV RL 13 mX4_write 1 := ⟨⟨wc_X4_write, wi_RX4, by decide +kernel, by decide +kernel, by decide +kernel, by decide⟩, kx_in (List.mem_of_getElem? (i := 183) (by decide +kernel)) (by decide +kernel), wm_X4_write, ww_X4_write⟩
theorem lk_X4_52 : kx_lV RX4 52 mX1_append 1 := ⟨⟨wc_X1_append, wi_RX1, by decide +kernel, by decide +kernel, by decide +kernel, by decide⟩, kx_in (List.mem_of_getElem? (i := 187) (by decide +kernel)) (by decide +kernel), wm_X1_append, ww_X1_append⟩
theorem lk_L_18 : kx_lV RL 18 mX4_wipe 0 := ⟨⟨wc_X4_wipe, wi_RX4, by decide +kernel, by decide +kernel, by decide +kernel, by decide⟩, kx_in (List.mem_of_getElem? (i := 191) (by decide +kernel)) (by decide +kernel), wm_X4_wipe, ww_X4_wipe⟩
theorem lk_L_23 : kx_lV RL 23 mX4_fault 0 := ⟨⟨wc_X4_fault, wi_RX4, by decide +kernel, by decide +kernel, by decide +kernel, by decide⟩, kx_in (List.mem_of_getElem? (i := 195) (by decide +kernel)) (by decide +kernel), wm_X4_fault, ww_X4_fault⟩
theorem lk_X4_60 : kx_lV RX4 60 mX1_readLand 0 := ⟨⟨wc_X1_readLand, wi_RX1, by decide +kernel, by decide +kernel, by decide +kernel, by decide⟩, kx_in (List.mem_of_getElem? (i := 199) (by decide +kernel)) (by decide +kernel), wm_X1_readLand, ww_X1_readLand⟩
theorem lk_X1_26 : kx_lV RX1 26 mX2_clear 0 := ⟨⟨wc_X2_clear, wi_RX2, by decide +kernel, by decide +kernel, by decide +kernel, by decide⟩, kx_in (List.mem_of_getElem? (i := 203) (by decide +kernel)) (by decide +kernel), wm_X2_clear, ww_X2_clear⟩
theorem lk_X1_29 : kx_lV RX1 29 mX1_letterAt 1 := ⟨⟨wc_X1_letterAt, wi_RX1, by decide +kernel, by decide +kernel, by decide +kernel, by decide⟩, kx_in (List.mem_of_getElem? (i := 207) (by decide +kernel)) (by decide +kernel), wm_X1_letterAt, ww_X1_letterAt⟩
theorem lk_X1_33 : kx_lV RX1 33 mX1_readPerson 1 := ⟨⟨wc_X1_readPerson, wi_RX1, by decide +kernel, by decide +kernel, by decide +kernel, by decide⟩, kx_in (List.mem_of_getElem? (i := 211) (by decide +kernel)) (by decide +kernel), wm_X1_readPerson, ww_X1_readPerson⟩
theorem lk_X1_42 : kx_lV RX1 42 mX1_digitAt 1 := ⟨⟨wc_X1_digitAt, wi_RX1, by decide +kernel, by decide +kernel, by decide +kernel, by decide⟩, kx_in (List.mem_of_getElem? (i := 215) (by decide +kernel)) (by decide +kernel), wm_X1_digitAt, ww_X1_digitAt⟩
theorem lk_X1_45 : kx_lV RX1 45 mX2_add 3 := ⟨⟨wc_X2_add, wi_RX2, by decide +kernel, by decide +kernel, by decide +kernel, by decide⟩, kx_in (List.mem_of_getElem? (i := 219) (by decide +kernel)) (by decide +kernel), wm_X2_add, ww_X2_add⟩
theorem lk_X1_36 : kx_lV RX1 36 mX1_readKin 1 := ⟨⟨wc_X1_readKin, wi_RX1, by decide +kernel, by decide +kernel, by decide +kernel, by decide⟩, kx_in (List.mem_of_getElem? (i := 223) (by decide +kernel)) (by decide +kernel), wm_X1_readKin, ww_X1_readKin⟩
theorem lk_X1_49 : kx_lV RX1 49 mX1_isPairLeft 0 := ⟨⟨wc_X1_isPairLeft, wi_RX1, by decide +kernel, by decide +kernel, by decide +kernel, by decide⟩, kx_in (List.mem_of_getElem? (i := 227) (by decide +kernel)) (by decide +kernel), wm_X1_isPairLeft, ww_X1_isPairLeft⟩
theorem lk_X1_53 : kx_lV RX1 53 mX2_laterStrangers 1 := ⟨⟨wc_X2_laterStrangers, wi_RX2, by decide +kernel, by decide +kernel, by decide +kernel, by decide⟩, kx_in (List.mem_of_getElem? (i := 231) (by decide +kernel)) (by decide +kernel), wm_X2_laterStrangers, ww_X2_laterStrangers⟩
theorem lk_X2_54 : kx_lV RX2 54 mX2_has 1 := ⟨⟨wc_X2_has, wi_RX2, by decide +kernel, by decide +kernel, by decide +kernel, by decide⟩, kx_in (List.mem_of_getElem? (i := 235) (by decide +kernel)) (by decide +kernel), wm_X2_has, ww_X2_has⟩
theorem lk_X2_46 : kx_lV RX2 46 mX2_everyone 0 := ⟨⟨wc_X2_everyone, wi_RX2, by decide +kernel, by decide +kernel, by decide +kernel, by decide⟩, kx_in (List.mem_of_getElem? (i := 239) (by decide +kernel)) (by decide +kernel), wm_X2_everyone, ww_X2_everyone⟩
theorem lk_X1_60 : kx_lV RX1 60 mX2_makeKin 2 := ⟨⟨wc_X2_makeKin, wi_RX2, by decide +kernel, by decide +kernel, by decide +kernel, by decide⟩, kx_in (List.mem_of_getElem? (i := 246) (by decide +kernel)) (by decide +kernel), wm_X2_makeKin, ww_X2_makeKin⟩
theorem lk_L_27 : kx_lV RL 27 mX4_land 0 := ⟨⟨wc_X4_land, wi_RX4, by decide +kernel, by decide +kernel, by decide +kernel, by decide⟩, kx_in (List.mem_of_getElem? (i := 250) (by decide +kernel)) (by decide +kernel), wm_X4_land, ww_X4_land⟩
theorem lk_X4_67 : kx_lV RX4 67 mX2_copyFrom 1 := ⟨⟨wc_X2_copyFrom, wi_RX2, by decide +kernel, by decide +kernel, by decide +kernel, by decide⟩, kx_in (List.mem_of_getElem? (i := 254) (by decide +kernel)) (by decide +kernel), wm_X2_copyFrom, ww_X2_copyFrom⟩
theorem lk_X4_71 : kx_lV RX4 71 mX0_forgetAll 0 := ⟨⟨wc_X0_forgetAll, wi_RX0, by decide +kernel, by decide +kernel, by decide +kernel, by decide⟩, kx_in (List.mem_of_getElem? (i := 261) (by decide +kernel)) (by decide +kernel), wm_X0_forgetAll, ww_X0_forgetAll⟩
theorem lk_L_31 : kx_lV RL 31 mX4_about 1 := ⟨⟨wc_X4_about, wi_RX4, by decide +kernel, by decide +kernel, by decide +kernel, by decide⟩, kx_in (List.mem_of_getElem? (i := 265) (by decide +kernel)) (by decide +kernel), wm_X4_about, ww_X4_about⟩
theorem lk_X4_87 : kx_lV RX4 87 mX2_allSorrow 0 := ⟨⟨wc_X2_allSorrow, wi_RX2, by decide +kernel, by decide +kernel, by decide +kernel, by decide⟩, kx_in (List.mem_of_getElem? (i := 269) (by decide +kernel)) (by decide +kernel), wm_X2_allSorrow, ww_X2_allSorrow⟩
theorem lk_L_35 : kx_lV RL 35 mX4_person 2 := ⟨⟨wc_X4_person, wi_RX4, by decide +kernel, by decide +kernel, by decide +kernel, by decide⟩, kx_in (List.mem_of_getElem? (i := 273) (by decide +kernel)) (by decide +kernel), wm_X4_person, ww_X4_person⟩
theorem lk_X4_90 : kx_lV RX4 90 mX2_has 1 := ⟨⟨wc_X2_has, wi_RX2, by decide +kernel, by decide +kernel, by decide +kernel, by decide⟩, kx_in (List.mem_of_getElem? (i := 277) (by decide +kernel)) (by decide +kernel), wm_X2_has, ww_X2_has⟩
theorem lk_X4_106 : kx_lV RX4 106 mX2_ounces 1 := ⟨⟨wc_X2_ounces, wi_RX2, by decide +kernel, by decide +kernel, by decide +kernel, by decide⟩, kx_in (List.mem_of_getElem? (i := 278) (by decide +kernel)) (by decide +kernel), wm_X2_ounces, ww_X2_ounces⟩
theorem lk_X4_110 : kx_lV RX4 110 mX2_thoseToWeepFor 1 := ⟨⟨wc_X2_thoseToWeepFor, wi_RX2, by decide +kernel, by decide +kernel, by decide +kernel, by decide⟩, kx_in (List.mem_of_getElem? (i := 282) (by decide +kernel)) (by decide +kernel), wm_X2_thoseToWeepFor, ww_X2_thoseToWeepFor⟩
theorem lk_X2_71 : kx_lV RX2 71 mX2_mayWeep 2 := ⟨⟨wc_X2_mayWeep, wi_RX2, by decide +kernel, by decide +kernel, by decide +kernel, by decide⟩, kx_in (List.mem_of_getElem? (i := 286) (by decide +kernel)) (by decide +kernel), wm_X2_mayWeep, ww_X2_mayWeep⟩
theorem lk_X2_65 : kx_lV RX2 65 mX2_isOpen 1 := ⟨⟨wc_X2_isOpen, wi_RX2, by decide +kernel, by decide +kernel, by decide +kernel, by decide⟩, kx_in (List.mem_of_getElem? (i := 290) (by decide +kernel)) (by decide +kernel), wm_X2_isOpen, ww_X2_isOpen⟩
theorem lk_X2_68 : kx_lV RX2 68 mX2_isFitFor 2 := ⟨⟨wc_X2_isFitFor, wi_RX2, by decide +kernel, by decide +kernel, by decide +kernel, by decide⟩, kx_in (List.mem_of_getElem? (i := 295) (by decide +kernel)) (by decide +kernel), wm_X2_isFitFor, ww_X2_isFitFor⟩
theorem lk_X2_58 : kx_lV RX2 58 mX2_ounces 1 := ⟨⟨wc_X2_ounces, wi_RX2, by decide +kernel, by decide +kernel, by decide +kernel, by decide⟩, kx_in (List.mem_of_getElem? (i := 299) (by decide +kernel)) (by decide +kernel), wm_X2_ounces, ww_X2_ounces⟩
theorem lk_X2_62 : kx_lV RX2 62 mX2_areKin 2 := ⟨⟨wc_X2_areKin, wi_RX2, by decide +kernel, by decide +kernel, by decide +kernel, by decide⟩, kx_in (List.mem_of_getElem? (i := 300) (by decide +kernel)) (by decide +kernel), wm_X2_areKin, ww_X2_areKin⟩
theorem lk_L_40 : kx_lV RL 40 mX4_owes 2 := ⟨⟨wc_X4_owes, wi_RX4, by decide +kernel, by decide +kernel, by decide +kernel, by decide⟩, kx_in (List.mem_of_getElem? (i := 304) (by decide +kernel)) (by decide +kernel), wm_X4_owes, ww_X4_owes⟩
theorem lk_X4_113 : kx_lV RX4 113 mX2_debt 2 := ⟨⟨wc_X2_debt, wi_RX2, by decide +kernel, by decide +kernel, by decide +kernel, by decide⟩, kx_in (List.mem_of_getElem? (i := 308) (by decide +kernel)) (by decide +kernel), wm_X2_debt, ww_X2_debt⟩
theorem lk_L_44 : kx_lV RL 44 mX4_funeral 1 := ⟨⟨wc_X4_funeral, wi_RX4, by decide +kernel, by decide +kernel, by decide +kernel, by decide⟩, kx_in (List.mem_of_getElem? (i := 312) (by decide +kernel)) (by decide +kernel), wm_X4_funeral, ww_X4_funeral⟩
theorem lk_X4_117 : kx_lV RX4 117 mX2_isOpen 1 := ⟨⟨wc_X2_isOpen, wi_RX2, by decide +kernel, by decide +kernel, by decide +kernel, by decide⟩, kx_in (List.mem_of_getElem? (i := 316) (by decide +kernel)) (by decide +kernel), wm_X2_isOpen, ww_X2_isOpen⟩
theorem lk_X4_120 : kx_lV RX4 120 mX0_remember 1 := ⟨⟨wc_X0_remember, wi_RX0, by decide +kernel, by decide +kernel, by decide +kernel, by decide⟩, kx_in (List.mem_of_getElem? (i := 317) (by decide +kernel)) (by decide +kernel), wm_X0_remember, ww_X0_remember⟩
theorem lk_X0_25 : kx_lS RX0 25 mX0_inRing 1 := ⟨⟨wc_X0_inRing, wi_RX0, by decide +kernel, by decide +kernel, by decide +kernel, by decide⟩, kx_in (List.mem_of_getElem? (i := 321) (by decide +kernel)) (by decide +kernel), wt_X0_inRing⟩
theorem lk_X0_29 : kx_lV RX0 29 mX2_copyFrom 1 := ⟨⟨wc_X2_copyFrom, wi_RX2, by decide +kernel, by decide +kernel, by decide +kernel, by decide⟩, kx_in (List.mem_of_getElem? (i := 327) (by decide +kernel)) (by decide +kernel), wm_X2_copyFrom, ww_X2_copyFrom⟩
theorem lk_X4_123 : kx_lV RX4 123 mX2_bereave 1 := ⟨⟨wc_X2_bereave, wi_RX2, by decide +kernel, by decide +kernel, by decide +kernel, by decide⟩, kx_in (List.mem_of_getElem? (i := 328) (by decide +kernel)) (by decide +kernel), wm_X2_bereave, ww_X2_bereave⟩
theorem lk_L_48 : kx_lV RL 48 mX4_weep 2 := ⟨⟨wc_X4_weep, wi_RX4, by decide +kernel, by decide +kernel, by decide +kernel, by decide⟩, kx_in (List.mem_of_getElem? (i := 338) (by decide +kernel)) (by decide +kernel), wm_X4_weep, ww_X4_weep⟩
theorem lk_X4_132 : kx_lV RX4 132 mX2_mayWeep 2 := ⟨⟨wc_X2_mayWeep, wi_RX2, by decide +kernel, by decide +kernel, by decide +kernel, by decide⟩, kx_in (List.mem_of_getElem? (i := 342) (by decide +kernel)) (by decide +kernel), wm_X2_mayWeep, ww_X2_mayWeep⟩
theorem lk_X4_136 : kx_lV RX4 136 mX2_weepFor 2 := ⟨⟨wc_X2_weepFor, wi_RX2, by decide +kernel, by decide +kernel, by decide +kernel, by decide⟩, kx_in (List.mem_of_getElem? (i := 343) (by decide +kernel)) (by decide +kernel), wm_X2_weepFor, ww_X2_weepFor⟩
theorem lk_X2_84 : kx_lV RX2 84 mX2_settle 2 := ⟨⟨wc_X2_settle, wi_RX2, by decide +kernel, by decide +kernel, by decide +kernel, by decide⟩, kx_in (List.mem_of_getElem? (i := 347) (by decide +kernel)) (by decide +kernel), wm_X2_settle, ww_X2_settle⟩
theorem lk_X2_91 : kx_lV RX2 91 mX2_makeKin 2 := ⟨⟨wc_X2_makeKin, wi_RX2, by decide +kernel, by decide +kernel, by decide +kernel, by decide⟩, kx_in (List.mem_of_getElem? (i := 351) (by decide +kernel)) (by decide +kernel), wm_X2_makeKin, ww_X2_makeKin⟩
theorem lk_L_52 : kx_lV RL 52 mX4_onions 2 := ⟨⟨wc_X4_onions, wi_RX4, by decide +kernel, by decide +kernel, by decide +kernel, by decide⟩, kx_in (List.mem_of_getElem? (i := 352) (by decide +kernel)) (by decide +kernel), wm_X4_onions, ww_X4_onions⟩
theorem lk_X4_139 : kx_lV RX4 139 mX2_mayUseOnions 2 := ⟨⟨wc_X2_mayUseOnions, wi_RX2, by decide +kernel, by decide +kernel, by decide +kernel, by decide⟩, kx_in (List.mem_of_getElem? (i := 356) (by decide +kernel)) (by decide +kernel), wm_X2_mayUseOnions, ww_X2_mayUseOnions⟩
theorem lk_X4_142 : kx_lV RX4 142 mX2_useOnions 2 := ⟨⟨wc_X2_useOnions, wi_RX2, by decide +kernel, by decide +kernel, by decide +kernel, by decide⟩, kx_in (List.mem_of_getElem? (i := 360) (by decide +kernel)) (by decide +kernel), wm_X2_useOnions, ww_X2_useOnions⟩
theorem lk_X2_88 : kx_lV RX2 88 mX2_mayUseOnions 2 := ⟨⟨wc_X2_mayUseOnions, wi_RX2, by decide +kernel, by decide +kernel, by decide +kernel, by decide⟩, kx_in (List.mem_of_getElem? (i := 364) (by decide +kernel)) (by decide +kernel), wm_X2_mayUseOnions, ww_X2_mayUseOnions⟩
theorem lk_L_56 : kx_lV RL 56 mX4_week 0 := ⟨⟨wc_X4_week, wi_RX4, by decide +kernel, by decide +kernel, by decide +kernel, by decide⟩, kx_in (List.mem_of_getElem? (i := 365) (by decide +kernel)) (by decide +kernel), wm_X4_week, ww_X4_week⟩
theorem lk_X4_146 : kx_lV RX4 146 mX2_passWeek 0 := ⟨⟨wc_X2_passWeek, wi_RX2, by decide +kernel, by decide +kernel, by decide +kernel, by decide⟩, kx_in (List.mem_of_getElem? (i := 369) (by decide +kernel)) (by decide +kernel), wm_X2_passWeek, ww_X2_passWeek⟩
theorem lk_L_60 : kx_lV RL 60 mX4_undo 0 := ⟨⟨wc_X4_undo, wi_RX4, by decide +kernel, by decide +kernel, by decide +kernel, by decide⟩, kx_in (List.mem_of_getElem? (i := 379) (by decide +kernel)) (by decide +kernel), wm_X4_undo, ww_X4_undo⟩
theorem lk_X4_149 : kx_lV RX4 149 mX0_takeLast 1 := ⟨⟨wc_X0_takeLast, wi_RX0, by decide +kernel, by decide +kernel, by decide +kernel, by decide⟩, kx_in (List.mem_of_getElem? (i := 383) (by decide +kernel)) (by decide +kernel), wm_X0_takeLast, ww_X0_takeLast⟩
theorem lk_L_64 : kx_lV RL 64 mX4_served 1 := ⟨⟨wc_X4_served, wi_RX4, by decide +kernel, by decide +kernel, by decide +kernel, by decide⟩, kx_in (List.mem_of_getElem? (i := 387) (by decide +kernel)) (by decide +kernel), wm_X4_served, ww_X4_served⟩
theorem lk_X4_152 : kx_lV RX4 152 mX2_unbereaved 0 := ⟨⟨wc_X2_unbereaved, wi_RX2, by decide +kernel, by decide +kernel, by decide +kernel, by decide⟩, kx_in (List.mem_of_getElem? (i := 391) (by decide +kernel)) (by decide +kernel), wm_X2_unbereaved, ww_X2_unbereaved⟩
theorem lk_X4_155 : kx_lV RX4 155 mX3_search 3 := ⟨⟨wc_X3_search, wi_RX3, by decide +kernel, by decide +kernel, by decide +kernel, by decide⟩, kx_in (List.mem_of_getElem? (i := 395) (by decide +kernel)) (by decide +kernel), wm_X3_search, ww_X3_search⟩
theorem lk_X3_24 : kx_lS RX3 24 mX3_give 7 := ⟨⟨wc_X3_give, wi_RX3, by decide +kernel, by decide +kernel, by decide +kernel, by decide⟩, kx_in (List.mem_of_getElem? (i := 399) (by decide +kernel)) (by decide +kernel), wt_X3_give⟩
theorem lk_X3_28 : kx_lV RX3 28 mX3_compare 3 := ⟨⟨wc_X3_compare, wi_RX3, by decide +kernel, by decide +kernel, by decide +kernel, by decide⟩, kx_in (List.mem_of_getElem? (i := 402) (by decide +kernel)) (by decide +kernel), wm_X3_compare, ww_X3_compare⟩
theorem lk_X3_36 : kx_lV RX3 36 mX2_isFitFor 2 := ⟨⟨wc_X2_isFitFor, wi_RX2, by decide +kernel, by decide +kernel, by decide +kernel, by decide⟩, kx_in (List.mem_of_getElem? (i := 407) (by decide +kernel)) (by decide +kernel), wm_X2_isFitFor, ww_X2_isFitFor⟩
theorem lk_X3_41 : kx_lV RX3 41 mX2_ounces 1 := ⟨⟨wc_X2_ounces, wi_RX2, by decide +kernel, by decide +kernel, by decide +kernel, by decide⟩, kx_in (List.mem_of_getElem? (i := 408) (by decide +kernel)) (by decide +kernel), wm_X2_ounces, ww_X2_ounces⟩
theorem lk_L_68 : kx_lV RL 68 mX4_nobody 1 := ⟨⟨wc_X4_nobody, wi_RX4, by decide +kernel, by decide +kernel, by decide +kernel, by decide⟩, kx_in (List.mem_of_getElem? (i := 409) (by decide +kernel)) (by decide +kernel), wm_X4_nobody, ww_X4_nobody⟩
theorem lk_X4_167 : kx_lV RX4 167 mX2_unweptBits 0 := ⟨⟨wc_X2_unweptBits, wi_RX2, by decide +kernel, by decide +kernel, by decide +kernel, by decide⟩, kx_in (List.mem_of_getElem? (i := 413) (by decide +kernel)) (by decide +kernel), wm_X2_unweptBits, ww_X2_unweptBits⟩
theorem lk_X2_74 : kx_lV RX2 74 mX2_thoseToWeepFor 1 := ⟨⟨wc_X2_thoseToWeepFor, wi_RX2, by decide +kernel, by decide +kernel, by decide +kernel, by decide⟩, kx_in (List.mem_of_getElem? (i := 417) (by decide +kernel)) (by decide +kernel), wm_X2_thoseToWeepFor, ww_X2_thoseToWeepFor⟩
theorem lk_X4_170 : kx_lV RX4 170 mX2_kinToAllBits 0 := ⟨⟨wc_X2_kinToAllBits, wi_RX2, by decide +kernel, by decide +kernel, by decide +kernel, by decide⟩, kx_in (List.mem_of_getElem? (i := 418) (by decide +kernel)) (by decide +kernel), wm_X2_kinToAllBits, ww_X2_kinToAllBits⟩
theorem lk_L_72 : kx_lV RL 72 mX4_till 2 := ⟨⟨wc_X4_till, wi_RX4, by decide +kernel, by decide +kernel, by decide +kernel, by decide⟩, kx_in (List.mem_of_getElem? (i := 422) (by decide +kernel)) (by decide +kernel), wm_X4_till, ww_X4_till⟩
theorem lk_L_76 : kx_lV RL 76 mX4_net 1 := ⟨⟨wc_X4_net, wi_RX4, by decide +kernel, by decide +kernel, by decide +kernel, by decide⟩, kx_in (List.mem_of_getElem? (i := 426) (by decide +kernel)) (by decide +kernel), wm_X4_net, ww_X4_net⟩
theorem lk_L_80 : kx_lV RL 80 mX4_ring 0 := ⟨⟨wc_X4_ring, wi_RX4, by decide +kernel, by decide +kernel, by decide +kernel, by decide⟩, kx_in (List.mem_of_getElem? (i := 430) (by decide +kernel)) (by decide +kernel), wm_X4_ring, ww_X4_ring⟩
theorem lk_X4_173 : kx_lV RX4 173 mX2_reachedByDebts 1 := ⟨⟨wc_X2_reachedByDebts, wi_RX2, by decide +kernel, by decide +kernel, by decide +kernel, by decide⟩, kx_in (List.mem_of_getElem? (i := 434) (by decide +kernel)) (by decide +kernel), wm_X2_reachedByDebts, ww_X2_reachedByDebts⟩
theorem lk_X2_77 : kx_lV RX2 77 mX2_creditors 1 := ⟨⟨wc_X2_creditors, wi_RX2, by decide +kernel, by decide +kernel, by decide +kernel, by decide⟩, kx_in (List.mem_of_getElem? (i := 438) (by decide +kernel)) (by decide +kernel), wm_X2_creditors, ww_X2_creditors⟩
theorem lk_X2_80 : kx_lV RX2 80 mX2_debt 2 := ⟨⟨wc_X2_debt, wi_RX2, by decide +kernel, by decide +kernel, by decide +kernel, by decide⟩, kx_in (List.mem_of_getElem? (i := 442) (by decide +kernel)) (by decide +kernel), wm_X2_debt, ww_X2_debt⟩
theorem lk_L_84 : kx_lV RL 84 mX4_share 2 := ⟨⟨wc_X4_share, wi_RX4, by decide +kernel, by decide +kernel, by decide +kernel, by decide⟩, kx_in (List.mem_of_getElem? (i := 443) (by decide +kernel)) (by decide +kernel), wm_X4_share, ww_X4_share⟩
theorem lk_X4_176 : kx_lS RX4 176 mX4_fraction 3 := ⟨⟨wc_X4_fraction, wi_RX4, by decide +kernel, by decide +kernel, by decide +kernel, by decide⟩, kx_in (List.mem_of_getElem? (i := 447) (by decide +kernel)) (by decide +kernel), wt_X4_fraction⟩
theorem lk_X4_180 : kx_lS RX4 180 mX4_factorial 1 := ⟨⟨wc_X4_factorial, wi_RX4, by decide +kernel, by decide +kernel, by decide +kernel, by decide⟩, kx_in (List.mem_of_getElem? (i := 450) (by decide +kernel)) (by decide +kernel), wt_X4_factorial⟩
theorem lk_X4_183 : kx_lV RX4 183 mX4_gain 2 := ⟨⟨wc_X4_gain, wi_RX4, by decide +kernel, by decide +kernel, by decide +kernel, by decide⟩, kx_in (List.mem_of_getElem? (i := 455) (by decide +kernel)) (by decide +kernel), wm_X4_gain, ww_X4_gain⟩
theorem lk_L_89 : kx_lV RL 89 mX4_weighed 3 := ⟨⟨wc_X4_weighed, wi_RX4, by decide +kernel, by decide +kernel, by decide +kernel, by decide⟩, kx_in (List.mem_of_getElem? (i := 459) (by decide +kernel)) (by decide +kernel), wm_X4_weighed, ww_X4_weighed⟩
theorem lk_X4_186 : kx_lV RX4 186 mX2_everyone 0 := ⟨⟨wc_X2_everyone, wi_RX2, by decide +kernel, by decide +kernel, by decide +kernel, by decide⟩, kx_in (List.mem_of_getElem? (i := 463) (by decide +kernel)) (by decide +kernel), wm_X2_everyone, ww_X2_everyone⟩
theorem lk_X4_189 : kx_lV RX4 189 mX4_weight 2 := ⟨⟨wc_X4_weight, wi_RX4, by decide +kernel, by decide +kernel, by decide +kernel, by decide⟩, kx_in (List.mem_of_getElem? (i := 464) (by decide +kernel)) (by decide +kernel), wm_X4_weight, ww_X4_weight⟩
theorem lk_X4_208 : kx_lS RX4 208 mX4_hasBit 2 := ⟨⟨wc_X4_hasBit, wi_RX4, by decide +kernel, by decide +kernel, by decide +kernel, by decide⟩, kx_in (List.mem_of_getElem? (i := 468) (by decide +kernel)) (by decide +kernel), wt_X4_hasBit⟩
theorem lk_L_94 : kx_lV RL 94 mX4_whose 1 := ⟨⟨wc_X4_whose, wi_RX4, by decide +kernel, by decide +kernel, by decide +kernel, by decide⟩, kx_in (List.mem_of_getElem? (i := 469) (by decide +kernel)) (by decide +kernel), wm_X4_whose, ww_X4_whose⟩
theorem lk_L_98 : kx_lV RL 98 mX4_rests 4 := ⟨⟨wc_X4_rests, wi_RX4, by decide +kernel, by decide +kernel, by decide +kernel, by decide⟩, kx_in (List.mem_of_getElem? (i := 473) (by decide +kernel)) (by decide +kernel), wm_X4_rests, ww_X4_rests⟩
theorem lk_X4_192 : kx_lS RX4 192 mX4_isAtRest 4 := ⟨⟨wc_X4_isAtRest, wi_RX4, by decide +kernel, by decide +kernel, by decide +kernel, by decide⟩, kx_in (List.mem_of_getElem? (i := 477) (by decide +kernel)) (by decide +kernel), wt_X4_isAtRest⟩
theorem lk_X4_211 : kx_lS RX4 211 mX4_gotByOne 4 := ⟨⟨wc_X4_gotByOne, wi_RX4, by decide +kernel, by decide +kernel, by decide +kernel, by decide⟩, kx_in (List.mem_of_getElem? (i := 480) (by decide +kernel)) (by decide +kernel), wt_X4_gotByOne⟩
theorem lk_X4_218 : kx_lS RX4 218 mX4_oneWeeps 4 := ⟨⟨wc_X4_oneWeeps, wi_RX4, by decide +kernel, by decide +kernel, by decide +kernel, by decide⟩, kx_in (List.mem_of_getElem? (i := 483) (by decide +kernel)) (by decide +kernel), wt_X4_oneWeeps⟩
theorem lk_X4_221 : kx_lS RX4 221 mX4_got 3 := ⟨⟨wc_X4_got, wi_RX4, by decide +kernel, by decide +kernel, by decide +kernel, by decide⟩, kx_in (List.mem_of_getElem? (i := 486) (by decide +kernel)) (by decide +kernel), wt_X4_got⟩
theorem lk_X4_215 : kx_lS RX4 215 mX4_gotByOther 4 := ⟨⟨wc_X4_gotByOther, wi_RX4, by decide +kernel, by decide +kernel, by decide +kernel, by decide⟩, kx_in (List.mem_of_getElem? (i := 489) (by decide +kernel)) (by decide +kernel), wt_X4_gotByOther⟩
theorem lk_L_103 : kx_lV RL 103 mX4_chance 2 := ⟨⟨wc_X4_chance, wi_RX4, by decide +kernel, by decide +kernel, by decide +kernel, by decide⟩, kx_in (List.mem_of_getElem? (i := 492) (by decide +kernel)) (by decide +kernel), wm_X4_chance, ww_X4_chance⟩
theorem lk_X4_196 : kx_lV RX4 196 mX4_allServed 1 := ⟨⟨wc_X4_allServed, wi_RX4, by decide +kernel, by decide +kernel, by decide +kernel, by decide⟩, kx_in (List.mem_of_getElem? (i := 496) (by decide +kernel)) (by decide +kernel), wm_X4_allServed, ww_X4_allServed⟩
theorem lk_X4_199 : kx_lS RX4 199 mX4_power 2 := ⟨⟨wc_X4_power, wi_RX4, by decide +kernel, by decide +kernel, by decide +kernel, by decide⟩, kx_in (List.mem_of_getElem? (i := 500) (by decide +kernel)) (by decide +kernel), wt_X4_power⟩
theorem lk_L_109 : kx_lV RL 109 mX4_seed 1 := ⟨⟨wc_X4_seed, wi_RX4, by decide +kernel, by decide +kernel, by decide +kernel, by decide⟩, kx_in (List.mem_of_getElem? (i := 503) (by decide +kernel)) (by decide +kernel), wm_X4_seed, ww_X4_seed⟩
theorem lk_L_114 : kx_lV RL 114 mX4_years 1 := ⟨⟨wc_X4_years, wi_RX4, by decide +kernel, by decide +kernel, by decide +kernel, by decide⟩, kx_in (List.mem_of_getElem? (i := 507) (by decide +kernel)) (by decide +kernel), wm_X4_years, ww_X4_years⟩
theorem lk_L_118 : kx_lV RL 118 mX4_keep 1 := ⟨⟨wc_X4_keep, wi_RX4, by decide +kernel, by decide +kernel, by decide +kernel, by decide⟩, kx_in (List.mem_of_getElem? (i := 514) (by decide +kernel)) (by decide +kernel), wm_X4_keep, ww_X4_keep⟩
theorem lk_L_122 : kx_lV RL 122 mX4_again 1 := ⟨⟨wc_X4_again, wi_RX4, by decide +kernel, by decide +kernel, by decide +kernel, by decide⟩, kx_in (List.mem_of_getElem? (i := 518) (by decide +kernel)) (by decide +kernel), wm_X4_again, ww_X4_again⟩
theorem lk_L_12 : kx_lI RL 12 mX5_init 0 := ⟨⟨wc_X5_init, wi_RX5, by decide +kernel, by decide +kernel, by decide +kernel, by decide⟩, kx_in (List.mem_of_getElem? (i := 524) (by decide +kernel)) (by decide +kernel), wm_X5_init, rfl⟩
theorem lk_L_17 : kx_lV RL 17 mX5_write 1 := ⟨⟨wc_X5_write, wi_RX5, by decide +kernel, by decide +kernel, by decide +kernel, by decide⟩, kx_in (List.mem_of_getElem? (i := 595) (by decide +kernel)) (by decide +kernel), wm_X5_write, ww_X5_write⟩
theorem lk_X5_48 : kx_lS RX5 48 mX5_in 3 := ⟨⟨wc_X5_in, wi_RX5, by decide +kernel, by decide +kernel, by decide +kernel, by decide⟩, kx_in (List.mem_of_getElem? (i := 600) (by decide +kernel)) (by decide +kernel), wt_X5_in⟩
theorem lk_L_22 : kx_lV RL 22 mX5_wipe 0 := ⟨⟨wc_X5_wipe, wi_RX5, by decide +kernel, by decide +kernel, by decide +kernel, by decide⟩, kx_in (List.mem_of_getElem? (i := 603) (by decide +kernel)) (by decide +kernel), wm_X5_wipe, ww_X5_wipe⟩
theorem lk_L_26 : kx_lV RL 26 mX5_fault 0 := ⟨⟨wc_X5_fault, wi_RX5, by decide +kernel, by decide +kernel, by decide +kernel, by decide⟩, kx_in (List.mem_of_getElem? (i := 607) (by decide +kernel)) (by decide +kernel), wm_X5_fault, ww_X5_fault⟩
theorem lk_X5_86 : kx_lV RX5 86 mX5_readLand 0 := ⟨⟨wc_X5_readLand, wi_RX5, by decide +kernel, by decide +kernel, by decide +kernel, by decide⟩, kx_in (List.mem_of_getElem? (i := 611) (by decide +kernel)) (by decide +kernel), wm_X5_readLand, ww_X5_readLand⟩
theorem lk_X5_83 : kx_lV RX5 83 mX5_readPart 0 := ⟨⟨wc_X5_readPart, wi_RX5, by decide +kernel, by decide +kernel, by decide +kernel, by decide⟩, kx_in (List.mem_of_getElem? (i := 615) (by decide +kernel)) (by decide +kernel), wm_X5_readPart, ww_X5_readPart⟩
theorem lk_X5_75 : kx_lV RX5 75 mX5_readPerson 0 := ⟨⟨wc_X5_readPerson, wi_RX5, by decide +kernel, by decide +kernel, by decide +kernel, by decide⟩, kx_in (List.mem_of_getElem? (i := 619) (by decide +kernel)) (by decide +kernel), wm_X5_readPerson, ww_X5_readPerson⟩
theorem lk_X5_71 : kx_lV RX5 71 mX5_figure 2 := ⟨⟨wc_X5_figure, wi_RX5, by decide +kernel, by decide +kernel, by decide +kernel, by decide⟩, kx_in (List.mem_of_getElem? (i := 623) (by decide +kernel)) (by decide +kernel), wm_X5_figure, ww_X5_figure⟩
theorem lk_X5_78 : kx_lV RX5 78 mX5_arePairs 0 := ⟨⟨wc_X5_arePairs, wi_RX5, by decide +kernel, by decide +kernel, by decide +kernel, by decide⟩, kx_in (List.mem_of_getElem? (i := 627) (by decide +kernel)) (by decide +kernel), wm_X5_arePairs, ww_X5_arePairs⟩
theorem lk_X5_67 : kx_lV RX5 67 mX5_pairsOf 1 := ⟨⟨wc_X5_pairsOf, wi_RX5, by decide +kernel, by decide +kernel, by decide +kernel, by decide⟩, kx_in (List.mem_of_getElem? (i := 631) (by decide +kernel)) (by decide +kernel), wm_X5_pairsOf, ww_X5_pairsOf⟩
theorem lk_X5_63 : kx_lS RX5 63 mX5_has 2 := ⟨⟨wc_X5_has, wi_RX5, by decide +kernel, by decide +kernel, by decide +kernel, by decide⟩, kx_in (List.mem_of_getElem? (i := 635) (by decide +kernel)) (by decide +kernel), wt_X5_has⟩
theorem lk_X5_81 : kx_lV RX5 81 mX5_readKin 0 := ⟨⟨wc_X5_readKin, wi_RX5, by decide +kernel, by decide +kernel, by decide +kernel, by decide⟩, kx_in (List.mem_of_getElem? (i := 638) (by decide +kernel)) (by decide +kernel), wm_X5_readKin, ww_X5_readKin⟩
theorem lk_L_30 : kx_lV RL 30 mX5_land 0 := ⟨⟨wc_X5_land, wi_RX5, by decide +kernel, by decide +kernel, by decide +kernel, by decide⟩, kx_in (List.mem_of_getElem? (i := 642) (by decide +kernel)) (by decide +kernel), wm_X5_land, ww_X5_land⟩
theorem lk_L_34 : kx_lV RL 34 mX5_about 1 := ⟨⟨wc_X5_about, wi_RX5, by decide +kernel, by decide +kernel, by decide +kernel, by decide⟩, kx_in (List.mem_of_getElem? (i := 646) (by decide +kernel)) (by decide +kernel), wm_X5_about, ww_X5_about⟩
theorem lk_L_39 : kx_lV RL 39 mX5_person 2 := ⟨⟨wc_X5_person, wi_RX5, by decide +kernel, by decide +kernel, by decide +kernel, by decide⟩, kx_in (List.mem_of_getElem? (i := 650) (by decide +kernel)) (by decide +kernel), wm_X5_person, ww_X5_person⟩
theorem lk_X5_108 : kx_lV RX5 108 mX5_noPerson 1 := ⟨⟨wc_X5_noPerson, wi_RX5, by decide +kernel, by decide +kernel, by decide +kernel, by decide⟩, kx_in (List.mem_of_getElem? (i := 654) (by decide +kernel)) (by decide +kernel), wm_X5_noPerson, ww_X5_noPerson⟩
theorem lk_X5_97 : kx_lV RX5 97 mX5_ouncesOf 2 := ⟨⟨wc_X5_ouncesOf, wi_RX5, by decide +kernel, by decide +kernel, by decide +kernel, by decide⟩, kx_in (List.mem_of_getElem? (i := 658) (by decide +kernel)) (by decide +kernel), wm_X5_ouncesOf, ww_X5_ouncesOf⟩
theorem lk_X5_112 : kx_lV RX5 112 mX5_mayFor 1 := ⟨⟨wc_X5_mayFor, wi_RX5, by decide +kernel, by decide +kernel, by decide +kernel, by decide⟩, kx_in (List.mem_of_getElem? (i := 662) (by decide +kernel)) (by decide +kernel), wm_X5_mayFor, ww_X5_mayFor⟩
theorem lk_X5_105 : kx_lV RX5 105 mX5_mayWeep 3 := ⟨⟨wc_X5_mayWeep, wi_RX5, by decide +kernel, by decide +kernel, by decide +kernel, by decide⟩, kx_in (List.mem_of_getElem? (i := 666) (by decide +kernel)) (by decide +kernel), wm_X5_mayWeep, ww_X5_mayWeep⟩
theorem lk_X5_93 : kx_lV RX5 93 mX5_isFree 3 := ⟨⟨wc_X5_isFree, wi_RX5, by decide +kernel, by decide +kernel, by decide +kernel, by decide⟩, kx_in (List.mem_of_getElem? (i := 670) (by decide +kernel)) (by decide +kernel), wm_X5_isFree, ww_X5_isFree⟩
theorem lk_L_43 : kx_lV RL 43 mX5_owes 2 := ⟨⟨wc_X5_owes, wi_RX5, by decide +kernel, by decide +kernel, by decide +kernel, by decide⟩, kx_in (List.mem_of_getElem? (i := 674) (by decide +kernel)) (by decide +kernel), wm_X5_owes, ww_X5_owes⟩
theorem lk_L_47 : kx_lV RL 47 mX5_funeral 1 := ⟨⟨wc_X5_funeral, wi_RX5, by decide +kernel, by decide +kernel, by decide +kernel, by decide⟩, kx_in (List.mem_of_getElem? (i := 678) (by decide +kernel)) (by decide +kernel), wm_X5_funeral, ww_X5_funeral⟩
theorem lk_X5_115 : kx_lV RX5 115 mX5_note 0 := ⟨⟨wc_X5_note, wi_RX5, by decide +kernel, by decide +kernel, by decide +kernel, by decide⟩, kx_in (List.mem_of_getElem? (i := 682) (by decide +kernel)) (by decide +kernel), wm_X5_note, ww_X5_note⟩
theorem lk_X5_118 : kx_lV RX5 118 mX5_open 2 := ⟨⟨wc_X5_open, wi_RX5, by decide +kernel, by decide +kernel, by decide +kernel, by decide⟩, kx_in (List.mem_of_getElem? (i := 686) (by decide +kernel)) (by decide +kernel), wm_X5_open, ww_X5_open⟩
theorem lk_X5_122 : kx_lS RX5 122 mX5_many 1 := ⟨⟨wc_X5_many, wi_RX5, by decide +kernel, by decide +kernel, by decide +kernel, by decide⟩, kx_in (List.mem_of_getElem? (i := 690) (by decide +kernel)) (by decide +kernel), wt_X5_many⟩
theorem lk_L_51 : kx_lV RL 51 mX5_weep 2 := ⟨⟨wc_X5_weep, wi_RX5, by decide +kernel, by decide +kernel, by decide +kernel, by decide⟩, kx_in (List.mem_of_getElem? (i := 693) (by decide +kernel)) (by decide +kernel), wm_X5_weep, ww_X5_weep⟩
theorem lk_X5_125 : kx_lV RX5 125 mX5_goWeep 3 := ⟨⟨wc_X5_goWeep, wi_RX5, by decide +kernel, by decide +kernel, by decide +kernel, by decide⟩, kx_in (List.mem_of_getElem? (i := 697) (by decide +kernel)) (by decide +kernel), wm_X5_goWeep, ww_X5_goWeep⟩
theorem lk_X5_101 : kx_lV RX5 101 mX5_close 3 := ⟨⟨wc_X5_close, wi_RX5, by decide +kernel, by decide +kernel, by decide +kernel, by decide⟩, kx_in (List.mem_of_getElem? (i := 701) (by decide +kernel)) (by decide +kernel), wm_X5_close, ww_X5_close⟩
theorem lk_L_55 : kx_lV RL 55 mX5_onions 2 := ⟨⟨wc_X5_onions, wi_RX5, by decide +kernel, by decide +kernel, by decide +kernel, by decide⟩, kx_in (List.mem_of_getElem? (i := 705) (by decide +kernel)) (by decide +kernel), wm_X5_onions, ww_X5_onions⟩
theorem lk_L_59 : kx_lV RL 59 mX5_week 0 := ⟨⟨wc_X5_week, wi_RX5, by decide +kernel, by decide +kernel, by decide +kernel, by decide⟩, kx_in (List.mem_of_getElem? (i := 709) (by decide +kernel)) (by decide +kernel), wm_X5_week, ww_X5_week⟩
theorem lk_X5_129 : kx_lV RX5 129 mX5_goWeek 1 := ⟨⟨wc_X5_goWeek, wi_RX5, by decide +kernel, by decide +kernel, by decide +kernel, by decide⟩, kx_in (List.mem_of_getElem? (i := 713) (by decide +kernel)) (by decide +kernel), wm_X5_goWeek, ww_X5_goWeek⟩
theorem lk_L_63 : kx_lV RL 63 mX5_undo 0 := ⟨⟨wc_X5_undo, wi_RX5, by decide +kernel, by decide +kernel, by decide +kernel, by decide⟩, kx_in (List.mem_of_getElem? (i := 717) (by decide +kernel)) (by decide +kernel), wm_X5_undo, ww_X5_undo⟩
theorem lk_L_67 : kx_lV RL 67 mX5_served 1 := ⟨⟨wc_X5_served, wi_RX5, by decide +kernel, by decide +kernel, by decide +kernel, by decide⟩, kx_in (List.mem_of_getElem? (i := 721) (by decide +kernel)) (by decide +kernel), wm_X5_served, ww_X5_served⟩
theorem lk_X5_147 : kx_lV RX5 147 mX5_everyone 0 := ⟨⟨wc_X5_everyone, wi_RX5, by decide +kernel, by decide +kernel, by decide +kernel, by decide⟩, kx_in (List.mem_of_getElem? (i := 726) (by decide +kernel)) (by decide +kernel), wm_X5_everyone, ww_X5_everyone⟩
theorem lk_X5_150 : kx_lV RX5 150 mX5_findServed 2 := ⟨⟨wc_X5_findServed, wi_RX5, by decide +kernel, by decide +kernel, by decide +kernel, by decide⟩, kx_in (List.mem_of_getElem? (i := 730) (by decide +kernel)) (by decide +kernel), wm_X5_findServed, ww_X5_findServed⟩
theorem lk_X5_142 : kx_lS RX5 142 mX5_power 2 := ⟨⟨wc_X5_power, wi_RX5, by decide +kernel, by decide +kernel, by decide +kernel, by decide⟩, kx_in (List.mem_of_getElem? (i := 734) (by decide +kernel)) (by decide +kernel), wt_X5_power⟩
theorem lk_L_71 : kx_lV RL 71 mX5_nobody 1 := ⟨⟨wc_X5_nobody, wi_RX5, by decide +kernel, by decide +kernel, by decide +kernel, by decide⟩, kx_in (List.mem_of_getElem? (i := 737) (by decide +kernel)) (by decide +kernel), wm_X5_nobody, ww_X5_nobody⟩
theorem lk_L_75 : kx_lV RL 75 mX5_till 2 := ⟨⟨wc_X5_till, wi_RX5, by decide +kernel, by decide +kernel, by decide +kernel, by decide⟩, kx_in (List.mem_of_getElem? (i := 741) (by decide +kernel)) (by decide +kernel), wm_X5_till, ww_X5_till⟩
theorem lk_X5_153 : kx_lV RX5 153 mX5_begin 0 := ⟨⟨wc_X5_begin, wi_RX5, by decide +kernel, by decide +kernel, by decide +kernel, by decide⟩, kx_in (List.mem_of_getElem? (i := 745) (by decide +kernel)) (by decide +kernel), wm_X5_begin, ww_X5_begin⟩
theorem lk_L_79 : kx_lV RL 79 mX5_net 1 := ⟨⟨wc_X5_net, wi_RX5, by decide +kernel, by decide +kernel, by decide +kernel, by decide⟩, kx_in (List.mem_of_getElem? (i := 749) (by decide +kernel)) (by decide +kernel), wm_X5_net, ww_X5_net⟩
theorem lk_L_83 : kx_lV RL 83 mX5_ring 0 := ⟨⟨wc_X5_ring, wi_RX5, by decide +kernel, by decide +kernel, by decide +kernel, by decide⟩, kx_in (List.mem_of_getElem? (i := 753) (by decide +kernel)) (by decide +kernel), wm_X5_ring, ww_X5_ring⟩
theorem lk_L_88 : kx_lV RL 88 mX5_share 2 := ⟨⟨wc_X5_share, wi_RX5, by decide +kernel, by decide +kernel, by decide +kernel, by decide⟩, kx_in (List.mem_of_getElem? (i := 757) (by decide +kernel)) (by decide +kernel), wm_X5_share, ww_X5_share⟩
theorem lk_X5_159 : kx_lS RX5 159 mX5_orders 1 := ⟨⟨wc_X5_orders, wi_RX5, by decide +kernel, by decide +kernel, by decide +kernel, by decide⟩, kx_in (List.mem_of_getElem? (i := 761) (by decide +kernel)) (by decide +kernel), wt_X5_orders⟩
theorem lk_X5_162 : kx_lS RX5 162 mX5_fraction 3 := ⟨⟨wc_X5_fraction, wi_RX5, by decide +kernel, by decide +kernel, by decide +kernel, by decide⟩, kx_in (List.mem_of_getElem? (i := 764) (by decide +kernel)) (by decide +kernel), wt_X5_fraction⟩
theorem lk_X5_156 : kx_lS RX5 156 mX5_divisor 2 := ⟨⟨wc_X5_divisor, wi_RX5, by decide +kernel, by decide +kernel, by decide +kernel, by decide⟩, kx_in (List.mem_of_getElem? (i := 767) (by decide +kernel)) (by decide +kernel), wt_X5_divisor⟩
theorem lk_L_93 : kx_lV RL 93 mX5_weighed 3 := ⟨⟨wc_X5_weighed, wi_RX5, by decide +kernel, by decide +kernel, by decide +kernel, by decide⟩, kx_in (List.mem_of_getElem? (i := 770) (by decide +kernel)) (by decide +kernel), wm_X5_weighed, ww_X5_weighed⟩
theorem lk_L_97 : kx_lV RL 97 mX5_whose 1 := ⟨⟨wc_X5_whose, wi_RX5, by decide +kernel, by decide +kernel, by decide +kernel, by decide⟩, kx_in (List.mem_of_getElem? (i := 775) (by decide +kernel)) (by decide +kernel), wm_X5_whose, ww_X5_whose⟩
theorem lk_L_102 : kx_lV RL 102 mX5_rests 4 := ⟨⟨wc_X5_rests, wi_RX5, by decide +kernel, by decide +kernel, by decide +kernel, by decide⟩, kx_in (List.mem_of_getElem? (i := 780) (by decide +kernel)) (by decide +kernel), wm_X5_rests, ww_X5_rests⟩
theorem lk_X5_180 : kx_lV RX5 180 mX5_findRests 3 := ⟨⟨wc_X5_findRests, wi_RX5, by decide +kernel, by decide +kernel, by decide +kernel, by decide⟩, kx_in (List.mem_of_getElem? (i := 784) (by decide +kernel)) (by decide +kernel), wm_X5_findRests, ww_X5_findRests⟩
theorem lk_X5_176 : kx_lV RX5 176 mX5_gainOf 6 := ⟨⟨wc_X5_gainOf, wi_RX5, by decide +kernel, by decide +kernel, by decide +kernel, by decide⟩, kx_in (List.mem_of_getElem? (i := 788) (by decide +kernel)) (by decide +kernel), wm_X5_gainOf, ww_X5_gainOf⟩
theorem lk_L_106 : kx_lV RL 106 mX5_chance 2 := ⟨⟨wc_X5_chance, wi_RX5, by decide +kernel, by decide +kernel, by decide +kernel, by decide⟩, kx_in (List.mem_of_getElem? (i := 792) (by decide +kernel)) (by decide +kernel), wm_X5_chance, ww_X5_chance⟩
theorem lk_L_113 : kx_lV RL 113 mX5_seed 1 := ⟨⟨wc_X5_seed, wi_RX5, by decide +kernel, by decide +kernel, by decide +kernel, by decide⟩, kx_in (List.mem_of_getElem? (i := 797) (by decide +kernel)) (by decide +kernel), wm_X5_seed, ww_X5_seed⟩
theorem lk_L_117 : kx_lV RL 117 mX5_years 1 := ⟨⟨wc_X5_years, wi_RX5, by decide +kernel, by decide +kernel, by decide +kernel, by decide⟩, kx_in (List.mem_of_getElem? (i := 801) (by decide +kernel)) (by decide +kernel), wm_X5_years, ww_X5_years⟩
theorem lk_L_121 : kx_lV RL 121 mX5_keep 1 := ⟨⟨wc_X5_keep, wi_RX5, by decide +kernel, by decide +kernel, by decide +kernel, by decide⟩, kx_in (List.mem_of_getElem? (i := 809) (by decide +kernel)) (by decide +kernel), wm_X5_keep, ww_X5_keep⟩
theorem lk_L_125 : kx_lV RL 125 mX5_again 1 := ⟨⟨wc_X5_again, wi_RX5, by decide +kernel, by decide +kernel, by decide +kernel, by decide⟩, kx_in (List.mem_of_getElem? (i := 813) (by decide +kernel)) (by decide +kernel), wm_X5_again, ww_X5_again⟩
theorem lk_X4_9 : kx_lIN RX4 9 mX1_init 0 := ⟨⟨wc_X1_init, wi_RX1, by decide +kernel, by decide +kernel, by decide +kernel, by decide⟩, ⟨RX4, List.mem_of_getElem? (i := 0) rfl⟩, wm_X1_init, rfl⟩
theorem lk_X1_17 : kx_lIN RX1 17 mX2_init 0 := ⟨⟨wc_X2_init, wi_RX2, by decide +kernel, by decide +kernel, by decide +kernel, by decide⟩, ⟨RX4, List.mem_of_getElem? (i := 1) rfl⟩, wm_X2_init, rfl⟩
theorem lk_X4_18 : kx_lIN RX4 18 mX2_init 0 := ⟨⟨wc_X2_init, wi_RX2, by decide +kernel, by decide +kernel, by decide +kernel, by decide⟩, ⟨RX4, List.mem_of_getElem? (i := 2) rfl⟩, wm_X2_init, rfl⟩
theorem lk_X0_17 : kx_lIN RX0 17 mX2_init 0 := ⟨⟨wc_X2_init, wi_RX2, by decide +kernel, by decide +kernel, by decide +kernel, by decide⟩, ⟨RX4, List.mem_of_getElem? (i := 3) rfl⟩, wm_X2_init, rfl⟩
theorem lk_X4_43 : kx_lIN RX4 43 mX3_init 0 := ⟨⟨wc_X3_init, wi_RX3, by decide +kernel, by decide +kernel, by decide +kernel, by decide⟩, ⟨RX4, List.mem_of_getElem? (i := 4) rfl⟩, wm_X3_init, rfl⟩
theorem lk_X1_56 : kx_lSN RX1 56 mX4_hasBit 2 := ⟨⟨wc_X4_hasBit, wi_RX4, by decide +kernel, by decide +kernel, by decide +kernel, by decide⟩, ⟨RX4, List.mem_of_getElem? (i := 5) rfl⟩, wt_X4_hasBit⟩
theorem lk_X2_50 : kx_lSN RX2 50 mX4_hasBit 2 := ⟨⟨wc_X4_hasBit, wi_RX4, by decide +kernel, by decide +kernel, by decide +kernel, by decide⟩, ⟨RX4, List.mem_of_getElem? (i := 6) rfl⟩, wt_X4_hasBit⟩
theorem lk_X3_32 : kx_lSN RX3 32 mX4_hasBit 2 := ⟨⟨wc_X4_hasBit, wi_RX4, by decide +kernel, by decide +kernel, by decide +kernel, by decide⟩, ⟨RX4, List.mem_of_getElem? (i := 7) rfl⟩, wt_X4_hasBit⟩
theorem wl_L_7 : Cond.classLink RL 7 RX4 ∈ kx_tbl := kx_in (List.mem_of_getElem? (i := 43) (by decide +kernel)) (by decide +kernel)
theorem wn_RX4 : Cond.instantiable RX4 8 ∈ kx_tbl := kx_in (List.mem_of_getElem? (i := 44) (by decide +kernel)) (by decide +kernel)
theorem wl_X4_7 : Cond.classLink RX4 7 RX1 ∈ kx_tbl := kx_in (List.mem_of_getElem? (i := 51) (by decide +kernel)) (by decide +kernel)
theorem wn_RX1 : Cond.instantiable RX1 3 ∈ kx_tbl := kx_in (List.mem_of_getElem? (i := 52) (by decide +kernel)) (by decide +kernel)
theorem wl_X1_15 : Cond.classLink RX1 15 RX2 ∈ kx_tbl := kx_in (List.mem_of_getElem? (i := 57) (by decide +kernel)) (by decide +kernel)
theorem wn_RX2 : Cond.instantiable RX2 9 ∈ kx_tbl := kx_in (List.mem_of_getElem? (i := 58) (by decide +kernel)) (by decide +kernel)
theorem wa_int : Cond.arrayClass .int ∈ kx_tbl := kx_in (List.mem_of_getElem? (i := 100) (by decide +kernel)) (by decide +kernel)
theorem wl_X4_16 : Cond.classLink RX4 16 RX2 ∈ kx_tbl := kx_in (List.mem_of_getElem? (i := 113) (by decide +kernel)) (by decide +kernel)
theorem wl_X4_26 : Cond.classLink RX4 26 RX0 ∈ kx_tbl := kx_in (List.mem_of_getElem? (i := 115) (by decide +kernel)) (by decide +kernel)
theorem wn_RX0 : Cond.instantiable RX0 3 ∈ kx_tbl := kx_in (List.mem_of_getElem? (i := 116) (by decide +kernel)) (by decide +kernel)
theorem wl_X0_9 : Cond.classLink RX0 9 RX2 ∈ kx_tbl := kx_in (List.mem_of_getElem? (i := 121) (by decide +kernel)) (by decide +kernel)
theorem wl_X4_41 : Cond.classLink RX4 41 RX3 ∈ kx_tbl := kx_in (List.mem_of_getElem? (i := 135) (by decide +kernel)) (by decide +kernel)
theorem wn_RX3 : Cond.instantiable RX3 4 ∈ kx_tbl := kx_in (List.mem_of_getElem? (i := 136) (by decide +kernel)) (by decide +kernel)
theorem wa_boolean : Cond.arrayClass .boolean ∈ kx_tbl := kx_in (List.mem_of_getElem? (i := 157) (by decide +kernel)) (by decide +kernel)
theorem wl_L_10 : Cond.classLink RL 10 RX5 ∈ kx_tbl := kx_in (List.mem_of_getElem? (i := 522) (by decide +kernel)) (by decide +kernel)
theorem wn_RX5 : Cond.instantiable RX5 22 ∈ kx_tbl := kx_in (List.mem_of_getElem? (i := 523) (by decide +kernel)) (by decide +kernel)
theorem wx_nat : Cond.native arraycopyName ∈ kx_tbl := kx_in (List.mem_of_getElem? (i := 260) (by decide +kernel)) (by decide +kernel)
theorem wx_sta : Cond.static arraycopyName ∈ kx_tbl := kx_in (List.mem_of_getElem? (i := 259) (by decide +kernel)) (by decide +kernel)
theorem wo_X4 : Cond.methodLink RX4 1 objectInit ∈ kx_tbl := kx_in (List.mem_of_getElem? (i := 48) (by decide +kernel)) (by decide +kernel)
theorem wo_X1 : Cond.methodLink RX1 3 objectInit ∈ kx_tbl := kx_in (List.mem_of_getElem? (i := 56) (by decide +kernel)) (by decide +kernel)
theorem wo_X2 : Cond.methodLink RX2 3 objectInit ∈ kx_tbl := kx_in (List.mem_of_getElem? (i := 62) (by decide +kernel)) (by decide +kernel)
theorem wo_X0 : Cond.methodLink RX0 3 objectInit ∈ kx_tbl := kx_in (List.mem_of_getElem? (i := 120) (by decide +kernel)) (by decide +kernel)
theorem wo_X3 : Cond.methodLink RX3 3 objectInit ∈ kx_tbl := kx_in (List.mem_of_getElem? (i := 140) (by decide +kernel)) (by decide +kernel)
theorem wx_X2_27 : Cond.methodLink RX2 27 arraycopyName ∈ kx_tbl := kx_in (List.mem_of_getElem? (i := 258) (by decide +kernel)) (by decide +kernel)
theorem wo_X5 : Cond.methodLink RX5 1 objectInit ∈ kx_tbl := kx_in (List.mem_of_getElem? (i := 527) (by decide +kernel)) (by decide +kernel)
theorem wo_in : Cond.instanceMethod objectInit ∈ kx_tbl := kx_in (List.mem_of_getElem? (i := 49) (by decide +kernel)) (by decide +kernel)
theorem wo_cd : Cond.code objectInit ⟨#[0xb1]⟩ 1 none ∈ kx_tbl := kx_in (List.mem_of_getElem? (i := 50) (by decide +kernel)) (by decide +kernel)
