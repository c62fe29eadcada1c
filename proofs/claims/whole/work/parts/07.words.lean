/-! ===== methods, links, fields, by their words ===== -/
def mX3_tank : ax_M := (yX3_tank, cX3_tank, 6, (some .int))
def mX3_within : ax_M := (yX3_within, cX3_within, 3, (some .boolean))
def mX3_neighbours : ax_M := (yX3_neighbours, cX3_neighbours, 4, (some .int))
def mX3_areTwoTanks : ax_M := (yX3_areTwoTanks, cX3_areTwoTanks, 3, (some .boolean))
def mX3_isTank : ax_M := (yX3_isTank, cX3_isTank, 2, (some .boolean))
def mX3_has : ax_M := (yX3_has, cX3_has, 2, (some .boolean))
def mX3_latest : ax_M := (yX3_latest, cX3_latest, 5, (some .int))
def mX3_isLiquid : ax_M := (yX3_isLiquid, cX3_isLiquid, 1, (some .boolean))
def mX3_cargo : ax_M := (yX3_cargo, cX3_cargo, 9, (some .int))
def mX3_isAmount : ax_M := (yX3_isAmount, cX3_isAmount, 1, (some .boolean))
def mX3_isLiquidSet : ax_M := (yX3_isLiquidSet, cX3_isLiquidSet, 1, (some .boolean))
def mX3_uncargo : ax_M := (yX3_uncargo, cX3_uncargo, 3, (some .int))
def mX3_tanksThatHold : ax_M := (yX3_tanksThatHold, cX3_tanksThatHold, 4, (some .int))
def mX3_amount : ax_M := (yX3_amount, cX3_amount, 4, (some .int))
def mX3_isCargo : ax_M := (yX3_isCargo, cX3_isCargo, 2, (some .boolean))
def mX3_washes : ax_M := (yX3_washes, cX3_washes, 6, (some .int))
def mX3_bound : ax_M := (yX3_bound, cX3_bound, 3, (some .int))
def mX3_ofTank : ax_M := (yX3_ofTank, cX3_ofTank, 4, (some .int))
def mX3_ofCargo : ax_M := (yX3_ofCargo, cX3_ofCargo, 4, (some .int))
def mX3_tanksThatSuit : ax_M := (yX3_tanksThatSuit, cX3_tanksThatSuit, 4, (some .int))
def mX3_faults : ax_M := (yX3_faults, cX3_faults, 5, (some .int))
def mX3_cargoesThatClash : ax_M := (yX3_cargoesThatClash, cX3_cargoesThatClash, 4, (some .int))
def mX3_clash : ax_M := (yX3_clash, cX3_clash, 2, (some .boolean))
def mX3_needs : ax_M := (yX3_needs, cX3_needs, 3, (some .int))
def mX3_washesNeeded : ax_M := (yX3_washesNeeded, cX3_washesNeeded, 4, (some .int))
def mX3_why : ax_M := (yX3_why, cX3_why, 3, (some .int))
def mX3_plan : ax_M := (yX3_plan, cX3_plan, 4, (some .int))
def mX3_broken : ax_M := (yX3_broken, cX3_broken, 2, (some .int))
def mX3_isCargoSet : ax_M := (yX3_isCargoSet, cX3_isCargoSet, 2, (some .boolean))
def mX3_toldGoesBeyond : ax_M := (yX3_toldGoesBeyond, cX3_toldGoesBeyond, 3, (some .boolean))
def mX3_toldDoesNotSuit : ax_M := (yX3_toldDoesNotSuit, cX3_toldDoesNotSuit, 3, (some .boolean))
def mX3_toldClashes : ax_M := (yX3_toldClashes, cX3_toldClashes, 5, (some .boolean))
def mX3_stowTold : ax_M := (yX3_stowTold, cX3_stowTold, 3, none)
def mJ9_min_7cf53 : ax_M := (yJ9_min_7cf53, cJ9_min_7cf53, 2, (some .int))
def mX3_toldLeavesSomeOf : ax_M := (yX3_toldLeavesSomeOf, cX3_toldLeavesSomeOf, 3, (some .boolean))
def mX3_toldLeavesTankEmpty : ax_M := (yX3_toldLeavesTankEmpty, cX3_toldLeavesTankEmpty, 2, (some .boolean))
def mX3_toldList : ax_M := (yX3_toldList, cX3_toldList, 3, (some .int))
def mJ9_abs_0f7a4 : ax_M := (yJ9_abs_0f7a4, cJ9_abs_0f7a4, 1, (some .int))
def mX3_ofPlan : ax_M := (yX3_ofPlan, cX3_ofPlan, 2, (some .int))
def mX3_toldCost : ax_M := (yX3_toldCost, cX3_toldCost, 4, (some .int))
def mX3_toldTanks : ax_M := (yX3_toldTanks, cX3_toldTanks, 3, (some .int))
def mX3_best : ax_M := (yX3_best, cX3_best, 4, (some .int))
def mX3_searchIfStale : ax_M := (yX3_searchIfStale, cX3_searchIfStale, 2, none)
def mX3_noteCargoes : ax_M := (yX3_noteCargoes, cX3_noteCargoes, 2, none)
def mX3_noteTanks : ax_M := (yX3_noteTanks, cX3_noteTanks, 5, none)
def mX3_tryTank : ax_M := (yX3_tryTank, cX3_tryTank, 8, none)
def mX1_keepIfBetter : ax_M := (yX1_keepIfBetter, cX1_keepIfBetter, 7, none)
def mX1_openTo : ax_M := (yX1_openTo, cX1_openTo, 4, (some .int))
def mX3_taken : ax_M := (yX3_taken, cX3_taken, 1, (some .int))
def mX3_takenSet : ax_M := (yX3_takenSet, cX3_takenSet, 7, (some .int))
def mX3_amountsOf : ax_M := (yX3_amountsOf, cX3_amountsOf, 4, (some .int))
def mJ6_bitCount_0f7a4 : ax_M := (yJ6_bitCount_0f7a4, cJ6_bitCount_0f7a4, 1, (some .int))
def mX3_load : ax_M := (yX3_load, cX3_load, 3, (some .int))
def mX3_tanksInUse : ax_M := (yX3_tanksInUse, cX3_tanksInUse, 1, (some .int))
def mX3_unload : ax_M := (yX3_unload, cX3_unload, 4, (some .int))
def mX2_leaveEmpty : ax_M := (yX2_leaveEmpty, cX2_leaveEmpty, 2, none)
def mX3_pour : ax_M := (yX3_pour, cX3_pour, 7, (some .int))
def mX3_mayComeInto : ax_M := (yX3_mayComeInto, cX3_mayComeInto, 5, (some .boolean))
def mX3_many : ax_M := (yX3_many, cX3_many, 2, (some .int))
def mX3_heldList : ax_M := (yX3_heldList, cX3_heldList, 3, (some .int))
def mX4_tank : ax_M := (yX4_tank, cX4_tank, 4, (some .int))
def mX4_within : ax_M := (yX4_within, cX4_within, 3, (some .boolean))
def mX4_neighbours : ax_M := (yX4_neighbours, cX4_neighbours, 4, (some .int))
def mX4_areTwo : ax_M := (yX4_areTwo, cX4_areTwo, 3, (some .boolean))
def mX4_isTank : ax_M := (yX4_isTank, cX4_isTank, 2, (some .boolean))
def mX4_has : ax_M := (yX4_has, cX4_has, 2, (some .boolean))
def mX4_latest : ax_M := (yX4_latest, cX4_latest, 5, (some .int))
def mX4_isLiquid : ax_M := (yX4_isLiquid, cX4_isLiquid, 1, (some .boolean))
def mX4_cargo : ax_M := (yX4_cargo, cX4_cargo, 7, (some .int))
def mX4_isSet : ax_M := (yX4_isSet, cX4_isSet, 1, (some .boolean))
def mX4_uncargo : ax_M := (yX4_uncargo, cX4_uncargo, 2, (some .int))
def mX4_holders : ax_M := (yX4_holders, cX4_holders, 4, (some .int))
def mX4_amount : ax_M := (yX4_amount, cX4_amount, 4, (some .int))
def mX4_isCargo : ax_M := (yX4_isCargo, cX4_isCargo, 2, (some .boolean))
def mX4_washes : ax_M := (yX4_washes, cX4_washes, 5, (some .int))
def mX4_bound : ax_M := (yX4_bound, cX4_bound, 3, (some .int))
def mX4_ofTank : ax_M := (yX4_ofTank, cX4_ofTank, 3, (some .int))
def mX4_ofCargo : ax_M := (yX4_ofCargo, cX4_ofCargo, 3, (some .int))
def mX4_suited : ax_M := (yX4_suited, cX4_suited, 4, (some .int))
def mX4_whyNot : ax_M := (yX4_whyNot, cX4_whyNot, 6, (some .int))
def mX4_clashes : ax_M := (yX4_clashes, cX4_clashes, 4, (some .int))
def mX4_doClash : ax_M := (yX4_doClash, cX4_doClash, 3, (some .boolean))
def mX4_needs : ax_M := (yX4_needs, cX4_needs, 3, (some .int))
def mX4_washesFor : ax_M := (yX4_washesFor, cX4_washesFor, 4, (some .int))
def mX4_why : ax_M := (yX4_why, cX4_why, 3, (some .int))
def mX4_plan : ax_M := (yX4_plan, cX4_plan, 4, (some .int))
def mX4_broken : ax_M := (yX4_broken, cX4_broken, 2, (some .int))
def mX4_isSetOfCargoes : ax_M := (yX4_isSetOfCargoes, cX4_isSetOfCargoes, 2, (some .boolean))
def mX4_triesPlan : ax_M := (yX4_triesPlan, cX4_triesPlan, 2, none)
def mX4_brokenBy : ax_M := (yX4_brokenBy, cX4_brokenBy, 3, (some .int))
def mX4_hasOther : ax_M := (yX4_hasOther, cX4_hasOther, 4, (some .boolean))
def mX4_hasUnfit : ax_M := (yX4_hasUnfit, cX4_hasUnfit, 3, (some .boolean))
def mX4_hasClash : ax_M := (yX4_hasClash, cX4_hasClash, 4, (some .boolean))
def mX4_hasTooMuch : ax_M := (yX4_hasTooMuch, cX4_hasTooMuch, 6, (some .boolean))
def mX4_fills : ax_M := (yX4_fills, cX4_fills, 4, none)
def mX4_hasEmpty : ax_M := (yX4_hasEmpty, cX4_hasEmpty, 3, (some .boolean))
def mX4_listOf : ax_M := (yX4_listOf, cX4_listOf, 3, (some .int))
def mX4_ofPlan : ax_M := (yX4_ofPlan, cX4_ofPlan, 2, (some .int))
def mX4_costOf : ax_M := (yX4_costOf, cX4_costOf, 3, (some .int))
def mX4_usedOf : ax_M := (yX4_usedOf, cX4_usedOf, 3, (some .int))
def mX4_best : ax_M := (yX4_best, cX4_best, 4, (some .int))
def mX4_findBest : ax_M := (yX4_findBest, cX4_findBest, 5, none)
def mX4_lays : ax_M := (yX4_lays, cX4_lays, 5, none)
def mX4_keepsBest : ax_M := (yX4_keepsBest, cX4_keepsBest, 4, none)
def mX4_triesBest : ax_M := (yX4_triesBest, cX4_triesBest, 2, none)
def mX4_taken : ax_M := (yX4_taken, cX4_taken, 3, (some .int))
def mX4_isBetter : ax_M := (yX4_isBetter, cX4_isBetter, 4, (some .boolean))
def mX4_amountsOf : ax_M := (yX4_amountsOf, cX4_amountsOf, 4, (some .int))
def mX4_sizeOf : ax_M := (yX4_sizeOf, cX4_sizeOf, 3, (some .int))
def mX4_load : ax_M := (yX4_load, cX4_load, 4, (some .int))
def mX4_unload : ax_M := (yX4_unload, cX4_unload, 4, (some .int))
def mX4_empties : ax_M := (yX4_empties, cX4_empties, 2, none)
def mX4_pour : ax_M := (yX4_pour, cX4_pour, 6, (some .int))
def mX4_mayTake : ax_M := (yX4_mayTake, cX4_mayTake, 5, (some .boolean))
def mX4_many : ax_M := (yX4_many, cX4_many, 2, (some .int))
def mX4_heldList : ax_M := (yX4_heldList, cX4_heldList, 3, (some .int))
theorem gm_abs : Cond.static Lib.Math.abs.name ∈ ax_GW ∧ Cond.initialized "java/lang/Math" ∈ ax_GW ∧ Cond.code Lib.Math.abs.name Lib.Math.abs.code 1 (some .int) ∈ ax_GW := ⟨ax_gw 410 (by decide +kernel) rfl, ax_gw 65 (by decide +kernel) rfl, ax_gw 411 (by decide +kernel) rfl⟩
theorem gm_min : Cond.static Lib.Math.min.name ∈ ax_GW ∧ Cond.initialized "java/lang/Math" ∈ ax_GW ∧ Cond.code Lib.Math.min.name Lib.Math.min.code 2 (some .int) ∈ ax_GW := ⟨ax_gw 395 (by decide +kernel) rfl, ax_gw 65 (by decide +kernel) rfl, ax_gw 396 (by decide +kernel) rfl⟩
theorem aw_mabs {d : Nat} {M : ax_M} {pc q : Nat} {ls : List (Option AV)} {st : List AV} {σ : SS} {K : ax_K} {idx : Nat} {x : Int32} (hd : decode M.2.1 pc = .ok (.invokestatic idx, 3)) (hq : pc + 3 = q) (hL : Cond.methodLink M.1.cls idx Lib.Math.abs.name ∈ ax_GW) (h8 : st.length ≤ 8) (kk : AW (d + 1) M q ls (.inl (if 0 ≤ x then x else 0 - x) :: st) σ K) : AW (d + 1) M pc ls (.inl x :: st) σ K := by
  subst hq
  intro p l e R s m args below meth c D cy ad H locs lsA C hl hs hP hS
  have hk := kk p l e R s m args below meth c D cy ad H locs lsA C hl (List.forall_mem_cons.mpr ⟨trivial, (List.forall_mem_cons.mp hs).2⟩) hP hS
  obtain ⟨c1, c2, c3, c4, c5, c6, c7, c8, c9, c10⟩ := C
  have hw : ∀ w ∈ ax_GW, w.before args s = true := fun w h => c7 w (List.mem_cons_of_mem _ h)
  exact va_mabs c1 c2 (c4.trans hl.1.1.symm) c6 (hw _ hL) (hw _ gm_abs.1) (hw _ gm_abs.2.1) (hw _ gm_abs.2.2) (by omega) (by rw [ax_sum]; omega) (Nat.zero_le _) (Nat.zero_le _) hd hk
theorem aw_mmin {d : Nat} {M : ax_M} {pc q : Nat} {ls : List (Option AV)} {st : List AV} {σ : SS} {K : ax_K} {idx : Nat} {x y : Int32} (hd : decode M.2.1 pc = .ok (.invokestatic idx, 3)) (hq : pc + 3 = q) (hL : Cond.methodLink M.1.cls idx Lib.Math.min.name ∈ ax_GW) (h8 : st.length ≤ 8) (kk : AW (d + 1) M q ls (.inl (if y < x then y else x) :: st) σ K) : AW (d + 1) M pc ls (.inl y :: .inl x :: st) σ K := by
  subst hq
  intro p l e R s m args below meth c D cy ad H locs lsA C hl hs hP hS
  have hk := kk p l e R s m args below meth c D cy ad H locs lsA C hl (List.forall_mem_cons.mpr ⟨trivial, (List.forall_mem_cons.mp (List.forall_mem_cons.mp hs).2).2⟩) hP hS
  obtain ⟨c1, c2, c3, c4, c5, c6, c7, c8, c9, c10⟩ := C
  have hw : ∀ w ∈ ax_GW, w.before args s = true := fun w h => c7 w (List.mem_cons_of_mem _ h)
  exact va_mmin c1 c2 (c4.trans hl.1.1.symm) c6 (hw _ hL) (hw _ gm_min.1) (hw _ gm_min.2.1) (hw _ gm_min.2.2) (by omega) (by rw [ax_sum]; omega) (Nat.zero_le _) (Nat.zero_le _) hd hk
theorem gX3_tank : ax_GV mX3_tank 3 := ⟨⟨ax_gw 271 (by decide +kernel) rfl, ax_gw 60 (by decide +kernel) rfl, by decide +kernel, ⟨by decide +kernel, by decide +kernel, by decide +kernel⟩, by decide⟩, ax_gw 269 (by decide +kernel) rfl, ax_gw 270 (by decide +kernel) rfl, by decide⟩
theorem gX3_within : ax_GS mX3_within 3 := ⟨⟨ax_gw 274 (by decide +kernel) rfl, ax_gw 60 (by decide +kernel) rfl, by decide +kernel, ⟨by decide +kernel, by decide +kernel, by decide +kernel⟩, by decide⟩, ax_gw 273 (by decide +kernel) rfl, by decide⟩
theorem gX3_neighbours : ax_GV mX3_neighbours 3 := ⟨⟨ax_gw 278 (by decide +kernel) rfl, ax_gw 60 (by decide +kernel) rfl, by decide +kernel, ⟨by decide +kernel, by decide +kernel, by decide +kernel⟩, by decide⟩, ax_gw 276 (by decide +kernel) rfl, ax_gw 277 (by decide +kernel) rfl, by decide⟩
theorem gX3_areTwoTanks : ax_GV mX3_areTwoTanks 2 := ⟨⟨ax_gw 282 (by decide +kernel) rfl, ax_gw 60 (by decide +kernel) rfl, by decide +kernel, ⟨by decide +kernel, by decide +kernel, by decide +kernel⟩, by decide⟩, ax_gw 281 (by decide +kernel) rfl, ax_gw 0 (by decide +kernel) rfl, by decide⟩
theorem gX3_isTank : ax_GV mX3_isTank 1 := ⟨⟨ax_gw 286 (by decide +kernel) rfl, ax_gw 60 (by decide +kernel) rfl, by decide +kernel, ⟨by decide +kernel, by decide +kernel, by decide +kernel⟩, by decide⟩, ax_gw 285 (by decide +kernel) rfl, ax_gw 1 (by decide +kernel) rfl, by decide⟩
theorem gX3_has : ax_GS mX3_has 2 := ⟨⟨ax_gw 289 (by decide +kernel) rfl, ax_gw 60 (by decide +kernel) rfl, by decide +kernel, ⟨by decide +kernel, by decide +kernel, by decide +kernel⟩, by decide⟩, ax_gw 288 (by decide +kernel) rfl, by decide⟩
theorem gX3_latest : ax_GV mX3_latest 3 := ⟨⟨ax_gw 293 (by decide +kernel) rfl, ax_gw 60 (by decide +kernel) rfl, by decide +kernel, ⟨by decide +kernel, by decide +kernel, by decide +kernel⟩, by decide⟩, ax_gw 291 (by decide +kernel) rfl, ax_gw 292 (by decide +kernel) rfl, by decide⟩
theorem gX3_isLiquid : ax_GS mX3_isLiquid 1 := ⟨⟨ax_gw 296 (by decide +kernel) rfl, ax_gw 60 (by decide +kernel) rfl, by decide +kernel, ⟨by decide +kernel, by decide +kernel, by decide +kernel⟩, by decide⟩, ax_gw 295 (by decide +kernel) rfl, by decide⟩
theorem gX3_cargo : ax_GV mX3_cargo 6 := ⟨⟨ax_gw 300 (by decide +kernel) rfl, ax_gw 60 (by decide +kernel) rfl, by decide +kernel, ⟨by decide +kernel, by decide +kernel, by decide +kernel⟩, by decide⟩, ax_gw 298 (by decide +kernel) rfl, ax_gw 299 (by decide +kernel) rfl, by decide⟩
theorem gX3_isAmount : ax_GS mX3_isAmount 1 := ⟨⟨ax_gw 303 (by decide +kernel) rfl, ax_gw 60 (by decide +kernel) rfl, by decide +kernel, ⟨by decide +kernel, by decide +kernel, by decide +kernel⟩, by decide⟩, ax_gw 302 (by decide +kernel) rfl, by decide⟩
theorem gX3_isLiquidSet : ax_GS mX3_isLiquidSet 1 := ⟨⟨ax_gw 306 (by decide +kernel) rfl, ax_gw 60 (by decide +kernel) rfl, by decide +kernel, ⟨by decide +kernel, by decide +kernel, by decide +kernel⟩, by decide⟩, ax_gw 305 (by decide +kernel) rfl, by decide⟩
theorem gX3_uncargo : ax_GV mX3_uncargo 0 := ⟨⟨ax_gw 310 (by decide +kernel) rfl, ax_gw 60 (by decide +kernel) rfl, by decide +kernel, ⟨by decide +kernel, by decide +kernel, by decide +kernel⟩, by decide⟩, ax_gw 308 (by decide +kernel) rfl, ax_gw 309 (by decide +kernel) rfl, by decide⟩
theorem gX3_tanksThatHold : ax_GV mX3_tanksThatHold 1 := ⟨⟨ax_gw 314 (by decide +kernel) rfl, ax_gw 60 (by decide +kernel) rfl, by decide +kernel, ⟨by decide +kernel, by decide +kernel, by decide +kernel⟩, by decide⟩, ax_gw 313 (by decide +kernel) rfl, ax_gw 2 (by decide +kernel) rfl, by decide⟩
theorem gX3_amount : ax_GV mX3_amount 2 := ⟨⟨ax_gw 318 (by decide +kernel) rfl, ax_gw 60 (by decide +kernel) rfl, by decide +kernel, ⟨by decide +kernel, by decide +kernel, by decide +kernel⟩, by decide⟩, ax_gw 316 (by decide +kernel) rfl, ax_gw 317 (by decide +kernel) rfl, by decide⟩
theorem gX3_isCargo : ax_GV mX3_isCargo 1 := ⟨⟨ax_gw 322 (by decide +kernel) rfl, ax_gw 60 (by decide +kernel) rfl, by decide +kernel, ⟨by decide +kernel, by decide +kernel, by decide +kernel⟩, by decide⟩, ax_gw 321 (by decide +kernel) rfl, ax_gw 3 (by decide +kernel) rfl, by decide⟩
theorem gX3_washes : ax_GV mX3_washes 3 := ⟨⟨ax_gw 326 (by decide +kernel) rfl, ax_gw 60 (by decide +kernel) rfl, by decide +kernel, ⟨by decide +kernel, by decide +kernel, by decide +kernel⟩, by decide⟩, ax_gw 324 (by decide +kernel) rfl, ax_gw 325 (by decide +kernel) rfl, by decide⟩
theorem gX3_bound : ax_GV mX3_bound 1 := ⟨⟨ax_gw 330 (by decide +kernel) rfl, ax_gw 60 (by decide +kernel) rfl, by decide +kernel, ⟨by decide +kernel, by decide +kernel, by decide +kernel⟩, by decide⟩, ax_gw 328 (by decide +kernel) rfl, ax_gw 329 (by decide +kernel) rfl, by decide⟩
theorem gX3_ofTank : ax_GV mX3_ofTank 2 := ⟨⟨ax_gw 334 (by decide +kernel) rfl, ax_gw 60 (by decide +kernel) rfl, by decide +kernel, ⟨by decide +kernel, by decide +kernel, by decide +kernel⟩, by decide⟩, ax_gw 332 (by decide +kernel) rfl, ax_gw 333 (by decide +kernel) rfl, by decide⟩
theorem gX3_ofCargo : ax_GV mX3_ofCargo 2 := ⟨⟨ax_gw 338 (by decide +kernel) rfl, ax_gw 60 (by decide +kernel) rfl, by decide +kernel, ⟨by decide +kernel, by decide +kernel, by decide +kernel⟩, by decide⟩, ax_gw 336 (by decide +kernel) rfl, ax_gw 337 (by decide +kernel) rfl, by decide⟩
theorem gX3_tanksThatSuit : ax_GV mX3_tanksThatSuit 1 := ⟨⟨ax_gw 342 (by decide +kernel) rfl, ax_gw 60 (by decide +kernel) rfl, by decide +kernel, ⟨by decide +kernel, by decide +kernel, by decide +kernel⟩, by decide⟩, ax_gw 341 (by decide +kernel) rfl, ax_gw 4 (by decide +kernel) rfl, by decide⟩
theorem gX3_faults : ax_GV mX3_faults 2 := ⟨⟨ax_gw 346 (by decide +kernel) rfl, ax_gw 60 (by decide +kernel) rfl, by decide +kernel, ⟨by decide +kernel, by decide +kernel, by decide +kernel⟩, by decide⟩, ax_gw 345 (by decide +kernel) rfl, ax_gw 5 (by decide +kernel) rfl, by decide⟩
theorem gX3_cargoesThatClash : ax_GV mX3_cargoesThatClash 1 := ⟨⟨ax_gw 350 (by decide +kernel) rfl, ax_gw 60 (by decide +kernel) rfl, by decide +kernel, ⟨by decide +kernel, by decide +kernel, by decide +kernel⟩, by decide⟩, ax_gw 349 (by decide +kernel) rfl, ax_gw 6 (by decide +kernel) rfl, by decide⟩
theorem gX3_clash : ax_GS mX3_clash 2 := ⟨⟨ax_gw 353 (by decide +kernel) rfl, ax_gw 60 (by decide +kernel) rfl, by decide +kernel, ⟨by decide +kernel, by decide +kernel, by decide +kernel⟩, by decide⟩, ax_gw 352 (by decide +kernel) rfl, by decide⟩
theorem gX3_needs : ax_GV mX3_needs 2 := ⟨⟨ax_gw 357 (by decide +kernel) rfl, ax_gw 60 (by decide +kernel) rfl, by decide +kernel, ⟨by decide +kernel, by decide +kernel, by decide +kernel⟩, by decide⟩, ax_gw 355 (by decide +kernel) rfl, ax_gw 356 (by decide +kernel) rfl, by decide⟩
theorem gX3_washesNeeded : ax_GV mX3_washesNeeded 2 := ⟨⟨ax_gw 361 (by decide +kernel) rfl, ax_gw 60 (by decide +kernel) rfl, by decide +kernel, ⟨by decide +kernel, by decide +kernel, by decide +kernel⟩, by decide⟩, ax_gw 360 (by decide +kernel) rfl, ax_gw 7 (by decide +kernel) rfl, by decide⟩
theorem gX3_why : ax_GV mX3_why 2 := ⟨⟨ax_gw 365 (by decide +kernel) rfl, ax_gw 60 (by decide +kernel) rfl, by decide +kernel, ⟨by decide +kernel, by decide +kernel, by decide +kernel⟩, by decide⟩, ax_gw 363 (by decide +kernel) rfl, ax_gw 364 (by decide +kernel) rfl, by decide⟩
theorem gX3_plan : ax_GV mX3_plan 2 := ⟨⟨ax_gw 369 (by decide +kernel) rfl, ax_gw 60 (by decide +kernel) rfl, by decide +kernel, ⟨by decide +kernel, by decide +kernel, by decide +kernel⟩, by decide⟩, ax_gw 367 (by decide +kernel) rfl, ax_gw 368 (by decide +kernel) rfl, by decide⟩
theorem gX3_broken : ax_GV mX3_broken 1 := ⟨⟨ax_gw 373 (by decide +kernel) rfl, ax_gw 60 (by decide +kernel) rfl, by decide +kernel, ⟨by decide +kernel, by decide +kernel, by decide +kernel⟩, by decide⟩, ax_gw 371 (by decide +kernel) rfl, ax_gw 372 (by decide +kernel) rfl, by decide⟩
theorem gX3_isCargoSet : ax_GV mX3_isCargoSet 1 := ⟨⟨ax_gw 377 (by decide +kernel) rfl, ax_gw 60 (by decide +kernel) rfl, by decide +kernel, ⟨by decide +kernel, by decide +kernel, by decide +kernel⟩, by decide⟩, ax_gw 376 (by decide +kernel) rfl, ax_gw 8 (by decide +kernel) rfl, by decide⟩
theorem gX3_toldGoesBeyond : ax_GV mX3_toldGoesBeyond 1 := ⟨⟨ax_gw 381 (by decide +kernel) rfl, ax_gw 60 (by decide +kernel) rfl, by decide +kernel, ⟨by decide +kernel, by decide +kernel, by decide +kernel⟩, by decide⟩, ax_gw 380 (by decide +kernel) rfl, ax_gw 9 (by decide +kernel) rfl, by decide⟩
theorem gX3_toldDoesNotSuit : ax_GV mX3_toldDoesNotSuit 0 := ⟨⟨ax_gw 385 (by decide +kernel) rfl, ax_gw 60 (by decide +kernel) rfl, by decide +kernel, ⟨by decide +kernel, by decide +kernel, by decide +kernel⟩, by decide⟩, ax_gw 384 (by decide +kernel) rfl, ax_gw 10 (by decide +kernel) rfl, by decide⟩
theorem gX3_toldClashes : ax_GV mX3_toldClashes 0 := ⟨⟨ax_gw 389 (by decide +kernel) rfl, ax_gw 60 (by decide +kernel) rfl, by decide +kernel, ⟨by decide +kernel, by decide +kernel, by decide +kernel⟩, by decide⟩, ax_gw 388 (by decide +kernel) rfl, ax_gw 11 (by decide +kernel) rfl, by decide⟩
theorem gX3_stowTold : ax_GV mX3_stowTold 0 := ⟨⟨ax_gw 393 (by decide +kernel) rfl, ax_gw 60 (by decide +kernel) rfl, by decide +kernel, ⟨by decide +kernel, by decide +kernel, by decide +kernel⟩, by decide⟩, ax_gw 392 (by decide +kernel) rfl, ax_gw 12 (by decide +kernel) rfl, by decide⟩
theorem gX3_toldLeavesSomeOf : ax_GV mX3_toldLeavesSomeOf 1 := ⟨⟨ax_gw 400 (by decide +kernel) rfl, ax_gw 60 (by decide +kernel) rfl, by decide +kernel, ⟨by decide +kernel, by decide +kernel, by decide +kernel⟩, by decide⟩, ax_gw 399 (by decide +kernel) rfl, ax_gw 13 (by decide +kernel) rfl, by decide⟩
theorem gX3_toldLeavesTankEmpty : ax_GV mX3_toldLeavesTankEmpty 0 := ⟨⟨ax_gw 404 (by decide +kernel) rfl, ax_gw 60 (by decide +kernel) rfl, by decide +kernel, ⟨by decide +kernel, by decide +kernel, by decide +kernel⟩, by decide⟩, ax_gw 403 (by decide +kernel) rfl, ax_gw 14 (by decide +kernel) rfl, by decide⟩
theorem gX3_toldList : ax_GV mX3_toldList 0 := ⟨⟨ax_gw 408 (by decide +kernel) rfl, ax_gw 60 (by decide +kernel) rfl, by decide +kernel, ⟨by decide +kernel, by decide +kernel, by decide +kernel⟩, by decide⟩, ax_gw 407 (by decide +kernel) rfl, ax_gw 15 (by decide +kernel) rfl, by decide⟩
theorem gX3_ofPlan : ax_GV mX3_ofPlan 1 := ⟨⟨ax_gw 415 (by decide +kernel) rfl, ax_gw 60 (by decide +kernel) rfl, by decide +kernel, ⟨by decide +kernel, by decide +kernel, by decide +kernel⟩, by decide⟩, ax_gw 413 (by decide +kernel) rfl, ax_gw 414 (by decide +kernel) rfl, by decide⟩
theorem gX3_toldCost : ax_GV mX3_toldCost 0 := ⟨⟨ax_gw 419 (by decide +kernel) rfl, ax_gw 60 (by decide +kernel) rfl, by decide +kernel, ⟨by decide +kernel, by decide +kernel, by decide +kernel⟩, by decide⟩, ax_gw 418 (by decide +kernel) rfl, ax_gw 16 (by decide +kernel) rfl, by decide⟩
theorem gX3_toldTanks : ax_GV mX3_toldTanks 0 := ⟨⟨ax_gw 423 (by decide +kernel) rfl, ax_gw 60 (by decide +kernel) rfl, by decide +kernel, ⟨by decide +kernel, by decide +kernel, by decide +kernel⟩, by decide⟩, ax_gw 422 (by decide +kernel) rfl, ax_gw 17 (by decide +kernel) rfl, by decide⟩
theorem gX3_best : ax_GV mX3_best 2 := ⟨⟨ax_gw 428 (by decide +kernel) rfl, ax_gw 60 (by decide +kernel) rfl, by decide +kernel, ⟨by decide +kernel, by decide +kernel, by decide +kernel⟩, by decide⟩, ax_gw 426 (by decide +kernel) rfl, ax_gw 427 (by decide +kernel) rfl, by decide⟩
theorem gX3_searchIfStale : ax_GV mX3_searchIfStale 0 := ⟨⟨ax_gw 432 (by decide +kernel) rfl, ax_gw 60 (by decide +kernel) rfl, by decide +kernel, ⟨by decide +kernel, by decide +kernel, by decide +kernel⟩, by decide⟩, ax_gw 431 (by decide +kernel) rfl, ax_gw 18 (by decide +kernel) rfl, by decide⟩
theorem gX3_noteCargoes : ax_GV mX3_noteCargoes 0 := ⟨⟨ax_gw 436 (by decide +kernel) rfl, ax_gw 60 (by decide +kernel) rfl, by decide +kernel, ⟨by decide +kernel, by decide +kernel, by decide +kernel⟩, by decide⟩, ax_gw 435 (by decide +kernel) rfl, ax_gw 19 (by decide +kernel) rfl, by decide⟩
theorem gX3_noteTanks : ax_GV mX3_noteTanks 0 := ⟨⟨ax_gw 440 (by decide +kernel) rfl, ax_gw 60 (by decide +kernel) rfl, by decide +kernel, ⟨by decide +kernel, by decide +kernel, by decide +kernel⟩, by decide⟩, ax_gw 439 (by decide +kernel) rfl, ax_gw 20 (by decide +kernel) rfl, by decide⟩
theorem gX3_tryTank : ax_GS mX3_tryTank 4 := ⟨⟨ax_gw 443 (by decide +kernel) rfl, ax_gw 60 (by decide +kernel) rfl, by decide +kernel, ⟨by decide +kernel, by decide +kernel, by decide +kernel⟩, by decide⟩, ax_gw 442 (by decide +kernel) rfl, by decide⟩
theorem gX1_keepIfBetter : ax_GV mX1_keepIfBetter 1 := ⟨⟨ax_gw 447 (by decide +kernel) rfl, ax_gw 61 (by decide +kernel) rfl, by decide +kernel, ⟨by decide +kernel, by decide +kernel, by decide +kernel⟩, by decide⟩, ax_gw 446 (by decide +kernel) rfl, ax_gw 21 (by decide +kernel) rfl, by decide⟩
theorem gX1_openTo : ax_GV mX1_openTo 1 := ⟨⟨ax_gw 452 (by decide +kernel) rfl, ax_gw 61 (by decide +kernel) rfl, by decide +kernel, ⟨by decide +kernel, by decide +kernel, by decide +kernel⟩, by decide⟩, ax_gw 451 (by decide +kernel) rfl, ax_gw 22 (by decide +kernel) rfl, by decide⟩
theorem gX3_taken : ax_GV mX3_taken 0 := ⟨⟨ax_gw 457 (by decide +kernel) rfl, ax_gw 60 (by decide +kernel) rfl, by decide +kernel, ⟨by decide +kernel, by decide +kernel, by decide +kernel⟩, by decide⟩, ax_gw 455 (by decide +kernel) rfl, ax_gw 456 (by decide +kernel) rfl, by decide⟩
theorem gX3_takenSet : ax_GV mX3_takenSet 0 := ⟨⟨ax_gw 461 (by decide +kernel) rfl, ax_gw 60 (by decide +kernel) rfl, by decide +kernel, ⟨by decide +kernel, by decide +kernel, by decide +kernel⟩, by decide⟩, ax_gw 460 (by decide +kernel) rfl, ax_gw 23 (by decide +kernel) rfl, by decide⟩
theorem gX3_amountsOf : ax_GV mX3_amountsOf 1 := ⟨⟨ax_gw 465 (by decide +kernel) rfl, ax_gw 60 (by decide +kernel) rfl, by decide +kernel, ⟨by decide +kernel, by decide +kernel, by decide +kernel⟩, by decide⟩, ax_gw 464 (by decide +kernel) rfl, ax_gw 24 (by decide +kernel) rfl, by decide⟩
theorem gJ6_bitCount_0f7a4 : ax_GS mJ6_bitCount_0f7a4 1 := ⟨⟨ax_gw 468 (by decide +kernel) rfl, ax_gw 66 (by decide +kernel) rfl, by decide +kernel, ⟨by decide +kernel, by decide +kernel, by decide +kernel⟩, by decide⟩, ax_gw 467 (by decide +kernel) rfl, by decide⟩
theorem gX3_load : ax_GV mX3_load 0 := ⟨⟨ax_gw 475 (by decide +kernel) rfl, ax_gw 60 (by decide +kernel) rfl, by decide +kernel, ⟨by decide +kernel, by decide +kernel, by decide +kernel⟩, by decide⟩, ax_gw 473 (by decide +kernel) rfl, ax_gw 474 (by decide +kernel) rfl, by decide⟩
theorem gX3_tanksInUse : ax_GV mX3_tanksInUse 0 := ⟨⟨ax_gw 479 (by decide +kernel) rfl, ax_gw 60 (by decide +kernel) rfl, by decide +kernel, ⟨by decide +kernel, by decide +kernel, by decide +kernel⟩, by decide⟩, ax_gw 478 (by decide +kernel) rfl, ax_gw 25 (by decide +kernel) rfl, by decide⟩
theorem gX3_unload : ax_GV mX3_unload 1 := ⟨⟨ax_gw 483 (by decide +kernel) rfl, ax_gw 60 (by decide +kernel) rfl, by decide +kernel, ⟨by decide +kernel, by decide +kernel, by decide +kernel⟩, by decide⟩, ax_gw 481 (by decide +kernel) rfl, ax_gw 482 (by decide +kernel) rfl, by decide⟩
theorem gX2_leaveEmpty : ax_GV mX2_leaveEmpty 1 := ⟨⟨ax_gw 487 (by decide +kernel) rfl, ax_gw 62 (by decide +kernel) rfl, by decide +kernel, ⟨by decide +kernel, by decide +kernel, by decide +kernel⟩, by decide⟩, ax_gw 486 (by decide +kernel) rfl, ax_gw 26 (by decide +kernel) rfl, by decide⟩
theorem gX3_pour : ax_GV mX3_pour 3 := ⟨⟨ax_gw 491 (by decide +kernel) rfl, ax_gw 60 (by decide +kernel) rfl, by decide +kernel, ⟨by decide +kernel, by decide +kernel, by decide +kernel⟩, by decide⟩, ax_gw 489 (by decide +kernel) rfl, ax_gw 490 (by decide +kernel) rfl, by decide⟩
theorem gX3_mayComeInto : ax_GV mX3_mayComeInto 2 := ⟨⟨ax_gw 495 (by decide +kernel) rfl, ax_gw 60 (by decide +kernel) rfl, by decide +kernel, ⟨by decide +kernel, by decide +kernel, by decide +kernel⟩, by decide⟩, ax_gw 494 (by decide +kernel) rfl, ax_gw 27 (by decide +kernel) rfl, by decide⟩
theorem gX3_many : ax_GV mX3_many 1 := ⟨⟨ax_gw 499 (by decide +kernel) rfl, ax_gw 60 (by decide +kernel) rfl, by decide +kernel, ⟨by decide +kernel, by decide +kernel, by decide +kernel⟩, by decide⟩, ax_gw 497 (by decide +kernel) rfl, ax_gw 498 (by decide +kernel) rfl, by decide⟩
theorem gX3_heldList : ax_GV mX3_heldList 0 := ⟨⟨ax_gw 503 (by decide +kernel) rfl, ax_gw 60 (by decide +kernel) rfl, by decide +kernel, ⟨by decide +kernel, by decide +kernel, by decide +kernel⟩, by decide⟩, ax_gw 502 (by decide +kernel) rfl, ax_gw 28 (by decide +kernel) rfl, by decide⟩
theorem gX4_tank : ax_GV mX4_tank 3 := ⟨⟨ax_gw 592 (by decide +kernel) rfl, ax_gw 64 (by decide +kernel) rfl, by decide +kernel, ⟨by decide +kernel, by decide +kernel, by decide +kernel⟩, by decide⟩, ax_gw 590 (by decide +kernel) rfl, ax_gw 591 (by decide +kernel) rfl, by decide⟩
theorem gX4_within : ax_GS mX4_within 3 := ⟨⟨ax_gw 595 (by decide +kernel) rfl, ax_gw 64 (by decide +kernel) rfl, by decide +kernel, ⟨by decide +kernel, by decide +kernel, by decide +kernel⟩, by decide⟩, ax_gw 594 (by decide +kernel) rfl, by decide⟩
theorem gX4_neighbours : ax_GV mX4_neighbours 3 := ⟨⟨ax_gw 599 (by decide +kernel) rfl, ax_gw 64 (by decide +kernel) rfl, by decide +kernel, ⟨by decide +kernel, by decide +kernel, by decide +kernel⟩, by decide⟩, ax_gw 597 (by decide +kernel) rfl, ax_gw 598 (by decide +kernel) rfl, by decide⟩
theorem gX4_areTwo : ax_GV mX4_areTwo 2 := ⟨⟨ax_gw 603 (by decide +kernel) rfl, ax_gw 64 (by decide +kernel) rfl, by decide +kernel, ⟨by decide +kernel, by decide +kernel, by decide +kernel⟩, by decide⟩, ax_gw 602 (by decide +kernel) rfl, ax_gw 29 (by decide +kernel) rfl, by decide⟩
theorem gX4_isTank : ax_GV mX4_isTank 1 := ⟨⟨ax_gw 607 (by decide +kernel) rfl, ax_gw 64 (by decide +kernel) rfl, by decide +kernel, ⟨by decide +kernel, by decide +kernel, by decide +kernel⟩, by decide⟩, ax_gw 606 (by decide +kernel) rfl, ax_gw 30 (by decide +kernel) rfl, by decide⟩
theorem gX4_has : ax_GS mX4_has 2 := ⟨⟨ax_gw 610 (by decide +kernel) rfl, ax_gw 64 (by decide +kernel) rfl, by decide +kernel, ⟨by decide +kernel, by decide +kernel, by decide +kernel⟩, by decide⟩, ax_gw 609 (by decide +kernel) rfl, by decide⟩
theorem gX4_latest : ax_GV mX4_latest 3 := ⟨⟨ax_gw 614 (by decide +kernel) rfl, ax_gw 64 (by decide +kernel) rfl, by decide +kernel, ⟨by decide +kernel, by decide +kernel, by decide +kernel⟩, by decide⟩, ax_gw 612 (by decide +kernel) rfl, ax_gw 613 (by decide +kernel) rfl, by decide⟩
theorem gX4_isLiquid : ax_GS mX4_isLiquid 1 := ⟨⟨ax_gw 617 (by decide +kernel) rfl, ax_gw 64 (by decide +kernel) rfl, by decide +kernel, ⟨by decide +kernel, by decide +kernel, by decide +kernel⟩, by decide⟩, ax_gw 616 (by decide +kernel) rfl, by decide⟩
theorem gX4_cargo : ax_GV mX4_cargo 6 := ⟨⟨ax_gw 621 (by decide +kernel) rfl, ax_gw 64 (by decide +kernel) rfl, by decide +kernel, ⟨by decide +kernel, by decide +kernel, by decide +kernel⟩, by decide⟩, ax_gw 619 (by decide +kernel) rfl, ax_gw 620 (by decide +kernel) rfl, by decide⟩
theorem gX4_isSet : ax_GS mX4_isSet 1 := ⟨⟨ax_gw 624 (by decide +kernel) rfl, ax_gw 64 (by decide +kernel) rfl, by decide +kernel, ⟨by decide +kernel, by decide +kernel, by decide +kernel⟩, by decide⟩, ax_gw 623 (by decide +kernel) rfl, by decide⟩
theorem gX4_uncargo : ax_GV mX4_uncargo 0 := ⟨⟨ax_gw 628 (by decide +kernel) rfl, ax_gw 64 (by decide +kernel) rfl, by decide +kernel, ⟨by decide +kernel, by decide +kernel, by decide +kernel⟩, by decide⟩, ax_gw 626 (by decide +kernel) rfl, ax_gw 627 (by decide +kernel) rfl, by decide⟩
theorem gX4_holders : ax_GV mX4_holders 1 := ⟨⟨ax_gw 632 (by decide +kernel) rfl, ax_gw 64 (by decide +kernel) rfl, by decide +kernel, ⟨by decide +kernel, by decide +kernel, by decide +kernel⟩, by decide⟩, ax_gw 631 (by decide +kernel) rfl, ax_gw 31 (by decide +kernel) rfl, by decide⟩
theorem gX4_amount : ax_GV mX4_amount 2 := ⟨⟨ax_gw 636 (by decide +kernel) rfl, ax_gw 64 (by decide +kernel) rfl, by decide +kernel, ⟨by decide +kernel, by decide +kernel, by decide +kernel⟩, by decide⟩, ax_gw 634 (by decide +kernel) rfl, ax_gw 635 (by decide +kernel) rfl, by decide⟩
theorem gX4_isCargo : ax_GV mX4_isCargo 1 := ⟨⟨ax_gw 640 (by decide +kernel) rfl, ax_gw 64 (by decide +kernel) rfl, by decide +kernel, ⟨by decide +kernel, by decide +kernel, by decide +kernel⟩, by decide⟩, ax_gw 639 (by decide +kernel) rfl, ax_gw 32 (by decide +kernel) rfl, by decide⟩
theorem gX4_washes : ax_GV mX4_washes 3 := ⟨⟨ax_gw 644 (by decide +kernel) rfl, ax_gw 64 (by decide +kernel) rfl, by decide +kernel, ⟨by decide +kernel, by decide +kernel, by decide +kernel⟩, by decide⟩, ax_gw 642 (by decide +kernel) rfl, ax_gw 643 (by decide +kernel) rfl, by decide⟩
theorem gX4_bound : ax_GV mX4_bound 1 := ⟨⟨ax_gw 648 (by decide +kernel) rfl, ax_gw 64 (by decide +kernel) rfl, by decide +kernel, ⟨by decide +kernel, by decide +kernel, by decide +kernel⟩, by decide⟩, ax_gw 646 (by decide +kernel) rfl, ax_gw 647 (by decide +kernel) rfl, by decide⟩
theorem gX4_ofTank : ax_GV mX4_ofTank 2 := ⟨⟨ax_gw 652 (by decide +kernel) rfl, ax_gw 64 (by decide +kernel) rfl, by decide +kernel, ⟨by decide +kernel, by decide +kernel, by decide +kernel⟩, by decide⟩, ax_gw 650 (by decide +kernel) rfl, ax_gw 651 (by decide +kernel) rfl, by decide⟩
theorem gX4_ofCargo : ax_GV mX4_ofCargo 2 := ⟨⟨ax_gw 656 (by decide +kernel) rfl, ax_gw 64 (by decide +kernel) rfl, by decide +kernel, ⟨by decide +kernel, by decide +kernel, by decide +kernel⟩, by decide⟩, ax_gw 654 (by decide +kernel) rfl, ax_gw 655 (by decide +kernel) rfl, by decide⟩
theorem gX4_suited : ax_GV mX4_suited 1 := ⟨⟨ax_gw 660 (by decide +kernel) rfl, ax_gw 64 (by decide +kernel) rfl, by decide +kernel, ⟨by decide +kernel, by decide +kernel, by decide +kernel⟩, by decide⟩, ax_gw 659 (by decide +kernel) rfl, ax_gw 33 (by decide +kernel) rfl, by decide⟩
theorem gX4_whyNot : ax_GV mX4_whyNot 2 := ⟨⟨ax_gw 664 (by decide +kernel) rfl, ax_gw 64 (by decide +kernel) rfl, by decide +kernel, ⟨by decide +kernel, by decide +kernel, by decide +kernel⟩, by decide⟩, ax_gw 663 (by decide +kernel) rfl, ax_gw 34 (by decide +kernel) rfl, by decide⟩
theorem gX4_clashes : ax_GV mX4_clashes 1 := ⟨⟨ax_gw 668 (by decide +kernel) rfl, ax_gw 64 (by decide +kernel) rfl, by decide +kernel, ⟨by decide +kernel, by decide +kernel, by decide +kernel⟩, by decide⟩, ax_gw 667 (by decide +kernel) rfl, ax_gw 35 (by decide +kernel) rfl, by decide⟩
theorem gX4_doClash : ax_GV mX4_doClash 2 := ⟨⟨ax_gw 672 (by decide +kernel) rfl, ax_gw 64 (by decide +kernel) rfl, by decide +kernel, ⟨by decide +kernel, by decide +kernel, by decide +kernel⟩, by decide⟩, ax_gw 671 (by decide +kernel) rfl, ax_gw 36 (by decide +kernel) rfl, by decide⟩
theorem gX4_needs : ax_GV mX4_needs 2 := ⟨⟨ax_gw 676 (by decide +kernel) rfl, ax_gw 64 (by decide +kernel) rfl, by decide +kernel, ⟨by decide +kernel, by decide +kernel, by decide +kernel⟩, by decide⟩, ax_gw 674 (by decide +kernel) rfl, ax_gw 675 (by decide +kernel) rfl, by decide⟩
theorem gX4_washesFor : ax_GV mX4_washesFor 2 := ⟨⟨ax_gw 680 (by decide +kernel) rfl, ax_gw 64 (by decide +kernel) rfl, by decide +kernel, ⟨by decide +kernel, by decide +kernel, by decide +kernel⟩, by decide⟩, ax_gw 679 (by decide +kernel) rfl, ax_gw 37 (by decide +kernel) rfl, by decide⟩
theorem gX4_why : ax_GV mX4_why 2 := ⟨⟨ax_gw 684 (by decide +kernel) rfl, ax_gw 64 (by decide +kernel) rfl, by decide +kernel, ⟨by decide +kernel, by decide +kernel, by decide +kernel⟩, by decide⟩, ax_gw 682 (by decide +kernel) rfl, ax_gw 683 (by decide +kernel) rfl, by decide⟩
theorem gX4_plan : ax_GV mX4_plan 2 := ⟨⟨ax_gw 688 (by decide +kernel) rfl, ax_gw 64 (by decide +kernel) rfl, by decide +kernel, ⟨by decide +kernel, by decide +kernel, by decide +kernel⟩, by decide⟩, ax_gw 686 (by decide +kernel) rfl, ax_gw 687 (by decide +kernel) rfl, by decide⟩
theorem gX4_broken : ax_GV mX4_broken 1 := ⟨⟨ax_gw 692 (by decide +kernel) rfl, ax_gw 64 (by decide +kernel) rfl, by decide +kernel, ⟨by decide +kernel, by decide +kernel, by decide +kernel⟩, by decide⟩, ax_gw 690 (by decide +kernel) rfl, ax_gw 691 (by decide +kernel) rfl, by decide⟩
theorem gX4_isSetOfCargoes : ax_GV mX4_isSetOfCargoes 1 := ⟨⟨ax_gw 696 (by decide +kernel) rfl, ax_gw 64 (by decide +kernel) rfl, by decide +kernel, ⟨by decide +kernel, by decide +kernel, by decide +kernel⟩, by decide⟩, ax_gw 695 (by decide +kernel) rfl, ax_gw 38 (by decide +kernel) rfl, by decide⟩
theorem gX4_triesPlan : ax_GV mX4_triesPlan 0 := ⟨⟨ax_gw 700 (by decide +kernel) rfl, ax_gw 64 (by decide +kernel) rfl, by decide +kernel, ⟨by decide +kernel, by decide +kernel, by decide +kernel⟩, by decide⟩, ax_gw 699 (by decide +kernel) rfl, ax_gw 39 (by decide +kernel) rfl, by decide⟩
theorem gX4_brokenBy : ax_GV mX4_brokenBy 1 := ⟨⟨ax_gw 704 (by decide +kernel) rfl, ax_gw 64 (by decide +kernel) rfl, by decide +kernel, ⟨by decide +kernel, by decide +kernel, by decide +kernel⟩, by decide⟩, ax_gw 703 (by decide +kernel) rfl, ax_gw 40 (by decide +kernel) rfl, by decide⟩
theorem gX4_hasOther : ax_GV mX4_hasOther 1 := ⟨⟨ax_gw 708 (by decide +kernel) rfl, ax_gw 64 (by decide +kernel) rfl, by decide +kernel, ⟨by decide +kernel, by decide +kernel, by decide +kernel⟩, by decide⟩, ax_gw 707 (by decide +kernel) rfl, ax_gw 41 (by decide +kernel) rfl, by decide⟩
theorem gX4_hasUnfit : ax_GV mX4_hasUnfit 0 := ⟨⟨ax_gw 712 (by decide +kernel) rfl, ax_gw 64 (by decide +kernel) rfl, by decide +kernel, ⟨by decide +kernel, by decide +kernel, by decide +kernel⟩, by decide⟩, ax_gw 711 (by decide +kernel) rfl, ax_gw 42 (by decide +kernel) rfl, by decide⟩
theorem gX4_hasClash : ax_GV mX4_hasClash 0 := ⟨⟨ax_gw 716 (by decide +kernel) rfl, ax_gw 64 (by decide +kernel) rfl, by decide +kernel, ⟨by decide +kernel, by decide +kernel, by decide +kernel⟩, by decide⟩, ax_gw 715 (by decide +kernel) rfl, ax_gw 43 (by decide +kernel) rfl, by decide⟩
theorem gX4_hasTooMuch : ax_GV mX4_hasTooMuch 1 := ⟨⟨ax_gw 720 (by decide +kernel) rfl, ax_gw 64 (by decide +kernel) rfl, by decide +kernel, ⟨by decide +kernel, by decide +kernel, by decide +kernel⟩, by decide⟩, ax_gw 719 (by decide +kernel) rfl, ax_gw 44 (by decide +kernel) rfl, by decide⟩
theorem gX4_fills : ax_GV mX4_fills 0 := ⟨⟨ax_gw 724 (by decide +kernel) rfl, ax_gw 64 (by decide +kernel) rfl, by decide +kernel, ⟨by decide +kernel, by decide +kernel, by decide +kernel⟩, by decide⟩, ax_gw 723 (by decide +kernel) rfl, ax_gw 45 (by decide +kernel) rfl, by decide⟩
theorem gX4_hasEmpty : ax_GV mX4_hasEmpty 0 := ⟨⟨ax_gw 728 (by decide +kernel) rfl, ax_gw 64 (by decide +kernel) rfl, by decide +kernel, ⟨by decide +kernel, by decide +kernel, by decide +kernel⟩, by decide⟩, ax_gw 727 (by decide +kernel) rfl, ax_gw 46 (by decide +kernel) rfl, by decide⟩
theorem gX4_listOf : ax_GV mX4_listOf 0 := ⟨⟨ax_gw 732 (by decide +kernel) rfl, ax_gw 64 (by decide +kernel) rfl, by decide +kernel, ⟨by decide +kernel, by decide +kernel, by decide +kernel⟩, by decide⟩, ax_gw 731 (by decide +kernel) rfl, ax_gw 47 (by decide +kernel) rfl, by decide⟩
theorem gX4_ofPlan : ax_GV mX4_ofPlan 1 := ⟨⟨ax_gw 736 (by decide +kernel) rfl, ax_gw 64 (by decide +kernel) rfl, by decide +kernel, ⟨by decide +kernel, by decide +kernel, by decide +kernel⟩, by decide⟩, ax_gw 734 (by decide +kernel) rfl, ax_gw 735 (by decide +kernel) rfl, by decide⟩
theorem gX4_costOf : ax_GV mX4_costOf 0 := ⟨⟨ax_gw 740 (by decide +kernel) rfl, ax_gw 64 (by decide +kernel) rfl, by decide +kernel, ⟨by decide +kernel, by decide +kernel, by decide +kernel⟩, by decide⟩, ax_gw 739 (by decide +kernel) rfl, ax_gw 48 (by decide +kernel) rfl, by decide⟩
theorem gX4_usedOf : ax_GV mX4_usedOf 0 := ⟨⟨ax_gw 744 (by decide +kernel) rfl, ax_gw 64 (by decide +kernel) rfl, by decide +kernel, ⟨by decide +kernel, by decide +kernel, by decide +kernel⟩, by decide⟩, ax_gw 743 (by decide +kernel) rfl, ax_gw 49 (by decide +kernel) rfl, by decide⟩
theorem gX4_best : ax_GV mX4_best 2 := ⟨⟨ax_gw 749 (by decide +kernel) rfl, ax_gw 64 (by decide +kernel) rfl, by decide +kernel, ⟨by decide +kernel, by decide +kernel, by decide +kernel⟩, by decide⟩, ax_gw 747 (by decide +kernel) rfl, ax_gw 748 (by decide +kernel) rfl, by decide⟩
theorem gX4_findBest : ax_GV mX4_findBest 1 := ⟨⟨ax_gw 753 (by decide +kernel) rfl, ax_gw 64 (by decide +kernel) rfl, by decide +kernel, ⟨by decide +kernel, by decide +kernel, by decide +kernel⟩, by decide⟩, ax_gw 752 (by decide +kernel) rfl, ax_gw 50 (by decide +kernel) rfl, by decide⟩
theorem gX4_lays : ax_GV mX4_lays 2 := ⟨⟨ax_gw 757 (by decide +kernel) rfl, ax_gw 64 (by decide +kernel) rfl, by decide +kernel, ⟨by decide +kernel, by decide +kernel, by decide +kernel⟩, by decide⟩, ax_gw 756 (by decide +kernel) rfl, ax_gw 51 (by decide +kernel) rfl, by decide⟩
theorem gX4_keepsBest : ax_GV mX4_keepsBest 0 := ⟨⟨ax_gw 761 (by decide +kernel) rfl, ax_gw 64 (by decide +kernel) rfl, by decide +kernel, ⟨by decide +kernel, by decide +kernel, by decide +kernel⟩, by decide⟩, ax_gw 760 (by decide +kernel) rfl, ax_gw 52 (by decide +kernel) rfl, by decide⟩
theorem gX4_triesBest : ax_GV mX4_triesBest 0 := ⟨⟨ax_gw 765 (by decide +kernel) rfl, ax_gw 64 (by decide +kernel) rfl, by decide +kernel, ⟨by decide +kernel, by decide +kernel, by decide +kernel⟩, by decide⟩, ax_gw 764 (by decide +kernel) rfl, ax_gw 53 (by decide +kernel) rfl, by decide⟩
theorem gX4_taken : ax_GV mX4_taken 0 := ⟨⟨ax_gw 769 (by decide +kernel) rfl, ax_gw 64 (by decide +kernel) rfl, by decide +kernel, ⟨by decide +kernel, by decide +kernel, by decide +kernel⟩, by decide⟩, ax_gw 767 (by decide +kernel) rfl, ax_gw 768 (by decide +kernel) rfl, by decide⟩
theorem gX4_isBetter : ax_GV mX4_isBetter 2 := ⟨⟨ax_gw 773 (by decide +kernel) rfl, ax_gw 64 (by decide +kernel) rfl, by decide +kernel, ⟨by decide +kernel, by decide +kernel, by decide +kernel⟩, by decide⟩, ax_gw 772 (by decide +kernel) rfl, ax_gw 54 (by decide +kernel) rfl, by decide⟩
theorem gX4_amountsOf : ax_GV mX4_amountsOf 1 := ⟨⟨ax_gw 777 (by decide +kernel) rfl, ax_gw 64 (by decide +kernel) rfl, by decide +kernel, ⟨by decide +kernel, by decide +kernel, by decide +kernel⟩, by decide⟩, ax_gw 776 (by decide +kernel) rfl, ax_gw 55 (by decide +kernel) rfl, by decide⟩
theorem gX4_sizeOf : ax_GS mX4_sizeOf 1 := ⟨⟨ax_gw 780 (by decide +kernel) rfl, ax_gw 64 (by decide +kernel) rfl, by decide +kernel, ⟨by decide +kernel, by decide +kernel, by decide +kernel⟩, by decide⟩, ax_gw 779 (by decide +kernel) rfl, by decide⟩
theorem gX4_load : ax_GV mX4_load 0 := ⟨⟨ax_gw 784 (by decide +kernel) rfl, ax_gw 64 (by decide +kernel) rfl, by decide +kernel, ⟨by decide +kernel, by decide +kernel, by decide +kernel⟩, by decide⟩, ax_gw 782 (by decide +kernel) rfl, ax_gw 783 (by decide +kernel) rfl, by decide⟩
theorem gX4_unload : ax_GV mX4_unload 1 := ⟨⟨ax_gw 789 (by decide +kernel) rfl, ax_gw 64 (by decide +kernel) rfl, by decide +kernel, ⟨by decide +kernel, by decide +kernel, by decide +kernel⟩, by decide⟩, ax_gw 787 (by decide +kernel) rfl, ax_gw 788 (by decide +kernel) rfl, by decide⟩
theorem gX4_empties : ax_GV mX4_empties 1 := ⟨⟨ax_gw 793 (by decide +kernel) rfl, ax_gw 64 (by decide +kernel) rfl, by decide +kernel, ⟨by decide +kernel, by decide +kernel, by decide +kernel⟩, by decide⟩, ax_gw 792 (by decide +kernel) rfl, ax_gw 56 (by decide +kernel) rfl, by decide⟩
theorem gX4_pour : ax_GV mX4_pour 3 := ⟨⟨ax_gw 797 (by decide +kernel) rfl, ax_gw 64 (by decide +kernel) rfl, by decide +kernel, ⟨by decide +kernel, by decide +kernel, by decide +kernel⟩, by decide⟩, ax_gw 795 (by decide +kernel) rfl, ax_gw 796 (by decide +kernel) rfl, by decide⟩
theorem gX4_mayTake : ax_GV mX4_mayTake 2 := ⟨⟨ax_gw 801 (by decide +kernel) rfl, ax_gw 64 (by decide +kernel) rfl, by decide +kernel, ⟨by decide +kernel, by decide +kernel, by decide +kernel⟩, by decide⟩, ax_gw 800 (by decide +kernel) rfl, ax_gw 57 (by decide +kernel) rfl, by decide⟩
theorem gX4_many : ax_GV mX4_many 1 := ⟨⟨ax_gw 805 (by decide +kernel) rfl, ax_gw 64 (by decide +kernel) rfl, by decide +kernel, ⟨by decide +kernel, by decide +kernel, by decide +kernel⟩, by decide⟩, ax_gw 803 (by decide +kernel) rfl, ax_gw 804 (by decide +kernel) rfl, by decide⟩
theorem gX4_heldList : ax_GV mX4_heldList 0 := ⟨⟨ax_gw 809 (by decide +kernel) rfl, ax_gw 64 (by decide +kernel) rfl, by decide +kernel, ⟨by decide +kernel, by decide +kernel, by decide +kernel⟩, by decide⟩, ax_gw 808 (by decide +kernel) rfl, ax_gw 58 (by decide +kernel) rfl, by decide⟩
theorem flX1_9 : ax_FL RX1 9 1 0 := fun r h => by cases h; exact ⟨by decide, Or.inl (ax_gw 85 (by decide +kernel) rfl)⟩
theorem flX3_255 : ax_FL RX3 255 1 0 := fun r h => by cases h; exact ⟨by decide, Or.inr ⟨"CargoTanks", ax_nw 27 (by decide +kernel) rfl⟩⟩
theorem flX1_15 : ax_FL RX1 15 1 1 := fun r h => by cases h; exact ⟨by decide, Or.inl (ax_gw 87 (by decide +kernel) rfl)⟩
theorem flX3_246 : ax_FL RX3 246 1 1 := fun r h => by cases h; exact ⟨by decide, Or.inr ⟨"CargoTanks", ax_nw 29 (by decide +kernel) rfl⟩⟩
theorem flX1_18 : ax_FL RX1 18 1 2 := fun r h => by cases h; exact ⟨by decide, Or.inl (ax_gw 89 (by decide +kernel) rfl)⟩
theorem flX3_256 : ax_FL RX3 256 1 2 := fun r h => by cases h; exact ⟨by decide, Or.inr ⟨"CargoTanks", ax_nw 31 (by decide +kernel) rfl⟩⟩
theorem flX1_21 : ax_FL RX1 21 1 3 := fun r h => by cases h; exact ⟨by decide, Or.inl (ax_gw 91 (by decide +kernel) rfl)⟩
theorem flX3_260 : ax_FL RX3 260 1 3 := fun r h => by cases h; exact ⟨by decide, Or.inr ⟨"CargoTanks", ax_nw 33 (by decide +kernel) rfl⟩⟩
theorem flX1_25 : ax_FL RX1 25 1 4 := fun r h => by cases h; exact ⟨by decide, Or.inl (ax_gw 93 (by decide +kernel) rfl)⟩
theorem flX3_262 : ax_FL RX3 262 1 4 := fun r h => by cases h; exact ⟨by decide, Or.inr ⟨"CargoTanks", ax_nw 35 (by decide +kernel) rfl⟩⟩
theorem flX1_28 : ax_FL RX1 28 1 5 := fun r h => by cases h; exact ⟨by decide, Or.inl (ax_gw 95 (by decide +kernel) rfl)⟩
theorem flX3_264 : ax_FL RX3 264 1 5 := fun r h => by cases h; exact ⟨by decide, Or.inr ⟨"CargoTanks", ax_nw 37 (by decide +kernel) rfl⟩⟩
theorem flX1_31 : ax_FL RX1 31 1 6 := fun r h => by cases h; exact ⟨by decide, Or.inl (ax_gw 97 (by decide +kernel) rfl)⟩
theorem flX3_257 : ax_FL RX3 257 1 6 := fun r h => by cases h; exact ⟨by decide, Or.inr ⟨"CargoTanks", ax_nw 39 (by decide +kernel) rfl⟩⟩
theorem flX1_34 : ax_FL RX1 34 1 7 := fun r h => by cases h; exact ⟨by decide, Or.inl (ax_gw 99 (by decide +kernel) rfl)⟩
theorem flX3_266 : ax_FL RX3 266 1 7 := fun r h => by cases h; exact ⟨by decide, Or.inr ⟨"CargoTanks", ax_nw 41 (by decide +kernel) rfl⟩⟩
theorem flX1_37 : ax_FL RX1 37 1 8 := fun r h => by cases h; exact ⟨by decide, Or.inl (ax_gw 101 (by decide +kernel) rfl)⟩
theorem flX3_269 : ax_FL RX3 269 1 8 := fun r h => by cases h; exact ⟨by decide, Or.inr ⟨"CargoTanks", ax_nw 43 (by decide +kernel) rfl⟩⟩
theorem flX1_40 : ax_FL RX1 40 1 9 := fun r h => by cases h; exact ⟨by decide, Or.inl (ax_gw 103 (by decide +kernel) rfl)⟩
theorem flX3_247 : ax_FL RX3 247 1 9 := fun r h => by cases h; exact ⟨by decide, Or.inr ⟨"CargoTanks", ax_nw 45 (by decide +kernel) rfl⟩⟩
theorem flX1_43 : ax_FL RX1 43 1 10 := fun r h => by cases h; exact ⟨by decide, Or.inl (ax_gw 105 (by decide +kernel) rfl)⟩
theorem flX3_252 : ax_FL RX3 252 1 10 := fun r h => by cases h; exact ⟨by decide, Or.inr ⟨"CargoTanks", ax_nw 47 (by decide +kernel) rfl⟩⟩
theorem flX1_46 : ax_FL RX1 46 1 11 := fun r h => by cases h; exact ⟨by decide, Or.inl (ax_gw 107 (by decide +kernel) rfl)⟩
theorem flX3_249 : ax_FL RX3 249 1 11 := fun r h => by cases h; exact ⟨by decide, Or.inr ⟨"CargoTanks", ax_nw 49 (by decide +kernel) rfl⟩⟩
theorem flX1_49 : ax_FL RX1 49 1 12 := fun r h => by cases h; exact ⟨by decide, Or.inl (ax_gw 109 (by decide +kernel) rfl)⟩
theorem flX3_278 : ax_FL RX3 278 1 12 := fun r h => by cases h; exact ⟨by decide, Or.inr ⟨"CargoTanks", ax_nw 51 (by decide +kernel) rfl⟩⟩
theorem flX1_52 : ax_FL RX1 52 1 13 := fun r h => by cases h; exact ⟨by decide, Or.inl (ax_gw 111 (by decide +kernel) rfl)⟩
theorem flX3_281 : ax_FL RX3 281 1 13 := fun r h => by cases h; exact ⟨by decide, Or.inr ⟨"CargoTanks", ax_nw 53 (by decide +kernel) rfl⟩⟩
theorem flX1_55 : ax_FL RX1 55 1 14 := fun r h => by cases h; exact ⟨by decide, Or.inl (ax_gw 113 (by decide +kernel) rfl)⟩
theorem flX3_185 : ax_FL RX3 185 1 14 := fun r h => by cases h; exact ⟨by decide, Or.inr ⟨"CargoTanks", ax_nw 55 (by decide +kernel) rfl⟩⟩
theorem flX1_58 : ax_FL RX1 58 1 15 := fun r h => by cases h; exact ⟨by decide, Or.inl (ax_gw 115 (by decide +kernel) rfl)⟩
theorem flX3_194 : ax_FL RX3 194 1 15 := fun r h => by cases h; exact ⟨by decide, Or.inr ⟨"CargoTanks", ax_nw 57 (by decide +kernel) rfl⟩⟩
theorem flX1_61 : ax_FL RX1 61 1 16 := fun r h => by cases h; exact ⟨by decide, Or.inl (ax_gw 117 (by decide +kernel) rfl)⟩
theorem flX3_197 : ax_FL RX3 197 1 16 := fun r h => by cases h; exact ⟨by decide, Or.inr ⟨"CargoTanks", ax_nw 59 (by decide +kernel) rfl⟩⟩
theorem flX1_64 : ax_FL RX1 64 1 17 := fun r h => by cases h; exact ⟨by decide, Or.inl (ax_gw 119 (by decide +kernel) rfl)⟩
theorem flX3_200 : ax_FL RX3 200 1 17 := fun r h => by cases h; exact ⟨by decide, Or.inr ⟨"CargoTanks", ax_nw 61 (by decide +kernel) rfl⟩⟩
theorem flX1_67 : ax_FL RX1 67 1 18 := fun r h => by cases h; exact ⟨by decide, Or.inl (ax_gw 121 (by decide +kernel) rfl)⟩
theorem flX3_191 : ax_FL RX3 191 1 18 := fun r h => by cases h; exact ⟨by decide, Or.inr ⟨"CargoTanks", ax_nw 63 (by decide +kernel) rfl⟩⟩
theorem flX1_70 : ax_FL RX1 70 1 19 := fun r h => by cases h; exact ⟨by decide, Or.inl (ax_gw 123 (by decide +kernel) rfl)⟩
theorem flX3_188 : ax_FL RX3 188 1 19 := fun r h => by cases h; exact ⟨by decide, Or.inr ⟨"CargoTanks", ax_nw 65 (by decide +kernel) rfl⟩⟩
theorem flX2_9 : ax_FL RX2 9 2 0 := fun r h => by cases h; exact ⟨by decide, Or.inl (ax_gw 172 (by decide +kernel) rfl)⟩
theorem flX3_64 : ax_FL RX3 64 2 0 := fun r h => by cases h; exact ⟨by decide, Or.inr ⟨"CargoTanks", ax_nw 114 (by decide +kernel) rfl⟩⟩
theorem flX2_15 : ax_FL RX2 15 2 1 := fun r h => by cases h; exact ⟨by decide, Or.inl (ax_gw 174 (by decide +kernel) rfl)⟩
theorem flX3_67 : ax_FL RX3 67 2 1 := fun r h => by cases h; exact ⟨by decide, Or.inr ⟨"CargoTanks", ax_nw 116 (by decide +kernel) rfl⟩⟩
theorem flX2_18 : ax_FL RX2 18 2 2 := fun r h => by cases h; exact ⟨by decide, Or.inl (ax_gw 176 (by decide +kernel) rfl)⟩
theorem flX3_70 : ax_FL RX3 70 2 2 := fun r h => by cases h; exact ⟨by decide, Or.inr ⟨"CargoTanks", ax_nw 118 (by decide +kernel) rfl⟩⟩
theorem flX2_21 : ax_FL RX2 21 2 3 := fun r h => by cases h; exact ⟨by decide, Or.inl (ax_gw 178 (by decide +kernel) rfl)⟩
theorem flX3_77 : ax_FL RX3 77 2 3 := fun r h => by cases h; exact ⟨by decide, Or.inr ⟨"CargoTanks", ax_nw 120 (by decide +kernel) rfl⟩⟩
theorem flX2_24 : ax_FL RX2 24 2 4 := fun r h => by cases h; exact ⟨by decide, Or.inl (ax_gw 180 (by decide +kernel) rfl)⟩
theorem flX3_90 : ax_FL RX3 90 2 4 := fun r h => by cases h; exact ⟨by decide, Or.inr ⟨"CargoTanks", ax_nw 122 (by decide +kernel) rfl⟩⟩
theorem flX2_28 : ax_FL RX2 28 2 5 := fun r h => by cases h; exact ⟨by decide, Or.inl (ax_gw 182 (by decide +kernel) rfl)⟩
theorem flX3_124 : ax_FL RX3 124 2 5 := fun r h => by cases h; exact ⟨by decide, Or.inr ⟨"CargoTanks", ax_nw 124 (by decide +kernel) rfl⟩⟩
theorem flX2_31 : ax_FL RX2 31 2 6 := fun r h => by cases h; exact ⟨by decide, Or.inl (ax_gw 184 (by decide +kernel) rfl)⟩
theorem flX3_127 : ax_FL RX3 127 2 6 := fun r h => by cases h; exact ⟨by decide, Or.inr ⟨"CargoTanks", ax_nw 126 (by decide +kernel) rfl⟩⟩
theorem flX0_7 : ax_FL RX0 7 0 0 := fun r h => by cases h; exact ⟨by decide, Or.inl (ax_gw 206 (by decide +kernel) rfl)⟩
theorem flX3_99 : ax_FL RX3 99 0 0 := fun r h => by cases h; exact ⟨by decide, Or.inr ⟨"CargoTanks", ax_nw 148 (by decide +kernel) rfl⟩⟩
theorem flX0_13 : ax_FL RX0 13 0 1 := fun r h => by cases h; exact ⟨by decide, Or.inl (ax_gw 208 (by decide +kernel) rfl)⟩
theorem flX3_102 : ax_FL RX3 102 0 1 := fun r h => by cases h; exact ⟨by decide, Or.inr ⟨"CargoTanks", ax_nw 150 (by decide +kernel) rfl⟩⟩
theorem flX0_16 : ax_FL RX0 16 0 2 := fun r h => by cases h; exact ⟨by decide, Or.inl (ax_gw 210 (by decide +kernel) rfl)⟩
theorem flX3_105 : ax_FL RX3 105 0 2 := fun r h => by cases h; exact ⟨by decide, Or.inr ⟨"CargoTanks", ax_nw 152 (by decide +kernel) rfl⟩⟩
theorem flX0_19 : ax_FL RX0 19 0 3 := fun r h => by cases h; exact ⟨by decide, Or.inl (ax_gw 212 (by decide +kernel) rfl)⟩
theorem flX3_108 : ax_FL RX3 108 0 3 := fun r h => by cases h; exact ⟨by decide, Or.inr ⟨"CargoTanks", ax_nw 154 (by decide +kernel) rfl⟩⟩
theorem flX0_22 : ax_FL RX0 22 0 4 := fun r h => by cases h; exact ⟨by decide, Or.inl (ax_gw 214 (by decide +kernel) rfl)⟩
theorem flX3_111 : ax_FL RX3 111 0 4 := fun r h => by cases h; exact ⟨by decide, Or.inr ⟨"CargoTanks", ax_nw 156 (by decide +kernel) rfl⟩⟩
theorem flX0_25 : ax_FL RX0 25 0 5 := fun r h => by cases h; exact ⟨by decide, Or.inl (ax_gw 216 (by decide +kernel) rfl)⟩
theorem flX3_114 : ax_FL RX3 114 0 5 := fun r h => by cases h; exact ⟨by decide, Or.inr ⟨"CargoTanks", ax_nw 158 (by decide +kernel) rfl⟩⟩
theorem flX3_11 : ax_FL RX3 11 3 0 := fun r h => by cases h; exact ⟨by decide, Or.inl (ax_gw 231 (by decide +kernel) rfl)⟩
theorem flX3_17 : ax_FL RX3 17 3 1 := fun r h => by cases h; exact ⟨by decide, Or.inl (ax_gw 232 (by decide +kernel) rfl)⟩
theorem flX3_21 : ax_FL RX3 21 3 2 := fun r h => by cases h; exact ⟨by decide, Or.inl (ax_gw 233 (by decide +kernel) rfl)⟩
theorem flX3_28 : ax_FL RX3 28 3 3 := fun r h => by cases h; exact ⟨by decide, Or.inl (ax_gw 234 (by decide +kernel) rfl)⟩
theorem flX3_32 : ax_FL RX3 32 3 4 := fun r h => by cases h; exact ⟨by decide, Or.inl (ax_gw 235 (by decide +kernel) rfl)⟩
theorem flX3_35 : ax_FL RX3 35 3 5 := fun r h => by cases h; exact ⟨by decide, Or.inl (ax_gw 236 (by decide +kernel) rfl)⟩
theorem flX3_38 : ax_FL RX3 38 3 6 := fun r h => by cases h; exact ⟨by decide, Or.inl (ax_gw 237 (by decide +kernel) rfl)⟩
theorem flX3_41 : ax_FL RX3 41 3 7 := fun r h => by cases h; exact ⟨by decide, Or.inl (ax_gw 238 (by decide +kernel) rfl)⟩
theorem flX3_45 : ax_FL RX3 45 3 8 := fun r h => by cases h; exact ⟨by decide, Or.inl (ax_gw 239 (by decide +kernel) rfl)⟩
theorem flX3_48 : ax_FL RX3 48 3 9 := fun r h => by cases h; exact ⟨by decide, Or.inl (ax_gw 240 (by decide +kernel) rfl)⟩
theorem flX3_51 : ax_FL RX3 51 3 10 := fun r h => by cases h; exact ⟨by decide, Or.inl (ax_gw 241 (by decide +kernel) rfl)⟩
theorem flX3_54 : ax_FL RX3 54 3 11 := fun r h => by cases h; exact ⟨by decide, Or.inl (ax_gw 242 (by decide +kernel) rfl)⟩
theorem lkL_13 : ax_LK RL 13 yX3_tank := Or.inl (ax_gw 268 (by decide +kernel) rfl)
theorem lkX3_60 : ax_LK RX3 60 yX3_within := Or.inl (ax_gw 272 (by decide +kernel) rfl)
theorem lkL_18 : ax_LK RL 18 yX3_neighbours := Or.inl (ax_gw 275 (by decide +kernel) rfl)
theorem lkX3_73 : ax_LK RX3 73 yX3_areTwoTanks := Or.inl (ax_gw 279 (by decide +kernel) rfl)
theorem lkX3_83 : ax_LK RX3 83 yX3_isTank := Or.inl (ax_gw 283 (by decide +kernel) rfl)
theorem lkX3_80 : ax_LK RX3 80 yX3_has := Or.inl (ax_gw 287 (by decide +kernel) rfl)
theorem lkL_23 : ax_LK RL 23 yX3_latest := Or.inl (ax_gw 290 (by decide +kernel) rfl)
theorem lkX3_87 : ax_LK RX3 87 yX3_isLiquid := Or.inl (ax_gw 294 (by decide +kernel) rfl)
theorem lkL_27 : ax_LK RL 27 yX3_cargo := Or.inl (ax_gw 297 (by decide +kernel) rfl)
theorem lkX3_93 : ax_LK RX3 93 yX3_isAmount := Or.inl (ax_gw 301 (by decide +kernel) rfl)
theorem lkX3_96 : ax_LK RX3 96 yX3_isLiquidSet := Or.inl (ax_gw 304 (by decide +kernel) rfl)
theorem lkL_32 : ax_LK RL 32 yX3_uncargo := Or.inl (ax_gw 307 (by decide +kernel) rfl)
theorem lkX3_117 : ax_LK RX3 117 yX3_tanksThatHold := Or.inl (ax_gw 311 (by decide +kernel) rfl)
theorem lkL_37 : ax_LK RL 37 yX3_amount := Or.inl (ax_gw 315 (by decide +kernel) rfl)
theorem lkX3_121 : ax_LK RX3 121 yX3_isCargo := Or.inl (ax_gw 319 (by decide +kernel) rfl)
theorem lkL_42 : ax_LK RL 42 yX3_washes := Or.inl (ax_gw 323 (by decide +kernel) rfl)
theorem lkL_46 : ax_LK RL 46 yX3_bound := Or.inl (ax_gw 327 (by decide +kernel) rfl)
theorem lkL_51 : ax_LK RL 51 yX3_ofTank := Or.inl (ax_gw 331 (by decide +kernel) rfl)
theorem lkL_55 : ax_LK RL 55 yX3_ofCargo := Or.inl (ax_gw 335 (by decide +kernel) rfl)
theorem lkX3_130 : ax_LK RX3 130 yX3_tanksThatSuit := Or.inl (ax_gw 339 (by decide +kernel) rfl)
theorem lkX3_141 : ax_LK RX3 141 yX3_faults := Or.inl (ax_gw 343 (by decide +kernel) rfl)
theorem lkX3_134 : ax_LK RX3 134 yX3_cargoesThatClash := Or.inl (ax_gw 347 (by decide +kernel) rfl)
theorem lkX3_220 : ax_LK RX3 220 yX3_clash := Or.inl (ax_gw 351 (by decide +kernel) rfl)
theorem lkL_59 : ax_LK RL 59 yX3_needs := Or.inl (ax_gw 354 (by decide +kernel) rfl)
theorem lkX3_137 : ax_LK RX3 137 yX3_washesNeeded := Or.inl (ax_gw 358 (by decide +kernel) rfl)
theorem lkL_63 : ax_LK RL 63 yX3_why := Or.inl (ax_gw 362 (by decide +kernel) rfl)
theorem lkL_67 : ax_LK RL 67 yX3_plan := Or.inl (ax_gw 366 (by decide +kernel) rfl)
theorem lkL_71 : ax_LK RL 71 yX3_broken := Or.inl (ax_gw 370 (by decide +kernel) rfl)
theorem lkX3_144 : ax_LK RX3 144 yX3_isCargoSet := Or.inl (ax_gw 374 (by decide +kernel) rfl)
theorem lkX3_147 : ax_LK RX3 147 yX3_toldGoesBeyond := Or.inl (ax_gw 378 (by decide +kernel) rfl)
theorem lkX3_150 : ax_LK RX3 150 yX3_toldDoesNotSuit := Or.inl (ax_gw 382 (by decide +kernel) rfl)
theorem lkX3_154 : ax_LK RX3 154 yX3_toldClashes := Or.inl (ax_gw 386 (by decide +kernel) rfl)
theorem lkX3_157 : ax_LK RX3 157 yX3_stowTold := Or.inl (ax_gw 390 (by decide +kernel) rfl)
theorem lkX3_224 : Cond.methodLink RX3 224 Lib.Math.min.name ∈ ax_GW := ax_gw 394 (by decide +kernel) rfl
theorem lkX3_160 : ax_LK RX3 160 yX3_toldLeavesSomeOf := Or.inl (ax_gw 397 (by decide +kernel) rfl)
theorem lkX3_163 : ax_LK RX3 163 yX3_toldLeavesTankEmpty := Or.inl (ax_gw 401 (by decide +kernel) rfl)
theorem lkX3_166 : ax_LK RX3 166 yX3_toldList := Or.inl (ax_gw 405 (by decide +kernel) rfl)
theorem lkX3_170 : Cond.methodLink RX3 170 Lib.Math.abs.name ∈ ax_GW := ax_gw 409 (by decide +kernel) rfl
theorem lkL_75 : ax_LK RL 75 yX3_ofPlan := Or.inl (ax_gw 412 (by decide +kernel) rfl)
theorem lkX3_175 : ax_LK RX3 175 yX3_toldCost := Or.inl (ax_gw 416 (by decide +kernel) rfl)
theorem lkX3_178 : ax_LK RX3 178 yX3_toldTanks := Or.inl (ax_gw 420 (by decide +kernel) rfl)
theorem kcX3_181 : Cond.constant RX3 181 (100000 : Int32) ∈ ax_GW := ax_gw 424 (by decide +kernel) rfl
theorem lkL_79 : ax_LK RL 79 yX3_best := Or.inl (ax_gw 425 (by decide +kernel) rfl)
theorem lkX3_182 : ax_LK RX3 182 yX3_searchIfStale := Or.inl (ax_gw 429 (by decide +kernel) rfl)
theorem lkX3_236 : ax_LK RX3 236 yX3_noteCargoes := Or.inl (ax_gw 433 (by decide +kernel) rfl)
theorem lkX3_239 : ax_LK RX3 239 yX3_noteTanks := Or.inl (ax_gw 437 (by decide +kernel) rfl)
theorem lkX3_242 : ax_LK RX3 242 yX3_tryTank := Or.inl (ax_gw 441 (by decide +kernel) rfl)
theorem lkX3_272 : ax_LK RX3 272 yX1_keepIfBetter := Or.inr ⟨"CargoTanks", ax_nw 385 (by decide +kernel) rfl⟩
theorem lkX1_77 : Cond.methodLink RX1 77 Lib.Math.abs.name ∈ ax_GW := ax_gw 448 (by decide +kernel) rfl
theorem lkX3_275 : ax_LK RX3 275 yX1_openTo := Or.inr ⟨"CargoTanks", ax_nw 390 (by decide +kernel) rfl⟩
theorem lkX1_73 : ax_LK RX1 73 yX3_has := Or.inr ⟨"CargoTanks", ax_nw 394 (by decide +kernel) rfl⟩
theorem lkL_83 : ax_LK RL 83 yX3_taken := Or.inl (ax_gw 454 (by decide +kernel) rfl)
theorem lkX3_203 : ax_LK RX3 203 yX3_takenSet := Or.inl (ax_gw 458 (by decide +kernel) rfl)
theorem lkX3_228 : ax_LK RX3 228 yX3_amountsOf := Or.inl (ax_gw 462 (by decide +kernel) rfl)
theorem lkX3_231 : ax_LK RX3 231 yJ6_bitCount_0f7a4 := Or.inl (ax_gw 466 (by decide +kernel) rfl)
theorem kcJ6_265 : Cond.constant RJ6 265 (1431655765 : Int32) ∈ ax_GW := ax_gw 469 (by decide +kernel) rfl
theorem kcJ6_266 : Cond.constant RJ6 266 (858993459 : Int32) ∈ ax_GW := ax_gw 470 (by decide +kernel) rfl
theorem kcJ6_267 : Cond.constant RJ6 267 (252645135 : Int32) ∈ ax_GW := ax_gw 471 (by decide +kernel) rfl
theorem lkL_87 : ax_LK RL 87 yX3_load := Or.inl (ax_gw 472 (by decide +kernel) rfl)
theorem lkX3_206 : ax_LK RX3 206 yX3_tanksInUse := Or.inl (ax_gw 476 (by decide +kernel) rfl)
theorem lkL_91 : ax_LK RL 91 yX3_unload := Or.inl (ax_gw 480 (by decide +kernel) rfl)
theorem lkX3_209 : ax_LK RX3 209 yX2_leaveEmpty := Or.inr ⟨"CargoTanks", ax_nw 425 (by decide +kernel) rfl⟩
theorem lkL_95 : ax_LK RL 95 yX3_pour := Or.inl (ax_gw 488 (by decide +kernel) rfl)
theorem lkX3_213 : ax_LK RX3 213 yX3_mayComeInto := Or.inl (ax_gw 492 (by decide +kernel) rfl)
theorem lkL_99 : ax_LK RL 99 yX3_many := Or.inl (ax_gw 496 (by decide +kernel) rfl)
theorem lkX3_217 : ax_LK RX3 217 yX3_heldList := Or.inl (ax_gw 500 (by decide +kernel) rfl)
theorem flX4_75 : ax_FL RX4 75 4 0 := fun r h => by cases h; exact ⟨by decide, Or.inl (ax_gw 510 (by decide +kernel) rfl)⟩
theorem flX4_7 : ax_FL RX4 7 4 1 := fun r h => by cases h; exact ⟨by decide, Or.inl (ax_gw 511 (by decide +kernel) rfl)⟩
theorem flX4_13 : ax_FL RX4 13 4 2 := fun r h => by cases h; exact ⟨by decide, Or.inl (ax_gw 512 (by decide +kernel) rfl)⟩
theorem flX4_16 : ax_FL RX4 16 4 3 := fun r h => by cases h; exact ⟨by decide, Or.inl (ax_gw 513 (by decide +kernel) rfl)⟩
theorem flX4_19 : ax_FL RX4 19 4 4 := fun r h => by cases h; exact ⟨by decide, Or.inl (ax_gw 514 (by decide +kernel) rfl)⟩
theorem flX4_22 : ax_FL RX4 22 4 5 := fun r h => by cases h; exact ⟨by decide, Or.inl (ax_gw 515 (by decide +kernel) rfl)⟩
theorem flX4_25 : ax_FL RX4 25 4 6 := fun r h => by cases h; exact ⟨by decide, Or.inl (ax_gw 516 (by decide +kernel) rfl)⟩
theorem flX4_28 : ax_FL RX4 28 4 7 := fun r h => by cases h; exact ⟨by decide, Or.inl (ax_gw 517 (by decide +kernel) rfl)⟩
theorem flX4_31 : ax_FL RX4 31 4 8 := fun r h => by cases h; exact ⟨by decide, Or.inl (ax_gw 518 (by decide +kernel) rfl)⟩
theorem flX4_92 : ax_FL RX4 92 4 9 := fun r h => by cases h; exact ⟨by decide, Or.inl (ax_gw 519 (by decide +kernel) rfl)⟩
theorem flX4_34 : ax_FL RX4 34 4 10 := fun r h => by cases h; exact ⟨by decide, Or.inl (ax_gw 520 (by decide +kernel) rfl)⟩
theorem flX4_37 : ax_FL RX4 37 4 11 := fun r h => by cases h; exact ⟨by decide, Or.inl (ax_gw 521 (by decide +kernel) rfl)⟩
theorem flX4_40 : ax_FL RX4 40 4 12 := fun r h => by cases h; exact ⟨by decide, Or.inl (ax_gw 522 (by decide +kernel) rfl)⟩
theorem flX4_43 : ax_FL RX4 43 4 13 := fun r h => by cases h; exact ⟨by decide, Or.inl (ax_gw 523 (by decide +kernel) rfl)⟩
theorem flX4_46 : ax_FL RX4 46 4 14 := fun r h => by cases h; exact ⟨by decide, Or.inl (ax_gw 524 (by decide +kernel) rfl)⟩
theorem flX4_49 : ax_FL RX4 49 4 15 := fun r h => by cases h; exact ⟨by decide, Or.inl (ax_gw 525 (by decide +kernel) rfl)⟩
theorem flX4_52 : ax_FL RX4 52 4 16 := fun r h => by cases h; exact ⟨by decide, Or.inl (ax_gw 526 (by decide +kernel) rfl)⟩
theorem flX4_55 : ax_FL RX4 55 4 17 := fun r h => by cases h; exact ⟨by decide, Or.inl (ax_gw 527 (by decide +kernel) rfl)⟩
theorem flX4_59 : ax_FL RX4 59 4 18 := fun r h => by cases h; exact ⟨by decide, Or.inl (ax_gw 528 (by decide +kernel) rfl)⟩
theorem flX4_62 : ax_FL RX4 62 4 19 := fun r h => by cases h; exact ⟨by decide, Or.inl (ax_gw 529 (by decide +kernel) rfl)⟩
theorem flX4_160 : ax_FL RX4 160 4 20 := fun r h => by cases h; exact ⟨by decide, Or.inl (ax_gw 530 (by decide +kernel) rfl)⟩
theorem flX4_170 : ax_FL RX4 170 4 21 := fun r h => by cases h; exact ⟨by decide, Or.inl (ax_gw 531 (by decide +kernel) rfl)⟩
theorem flX4_173 : ax_FL RX4 173 4 22 := fun r h => by cases h; exact ⟨by decide, Or.inl (ax_gw 532 (by decide +kernel) rfl)⟩
theorem flX4_65 : ax_FL RX4 65 4 23 := fun r h => by cases h; exact ⟨by decide, Or.inl (ax_gw 533 (by decide +kernel) rfl)⟩
theorem flX4_68 : ax_FL RX4 68 4 24 := fun r h => by cases h; exact ⟨by decide, Or.inl (ax_gw 534 (by decide +kernel) rfl)⟩
theorem flX4_195 : ax_FL RX4 195 4 25 := fun r h => by cases h; exact ⟨by decide, Or.inl (ax_gw 535 (by decide +kernel) rfl)⟩
theorem lkL_17 : ax_LK RL 17 yX4_tank := Or.inl (ax_gw 589 (by decide +kernel) rfl)
theorem lkX4_71 : ax_LK RX4 71 yX4_within := Or.inl (ax_gw 593 (by decide +kernel) rfl)
theorem lkL_22 : ax_LK RL 22 yX4_neighbours := Or.inl (ax_gw 596 (by decide +kernel) rfl)
theorem lkX4_82 : ax_LK RX4 82 yX4_areTwo := Or.inl (ax_gw 600 (by decide +kernel) rfl)
theorem lkX4_78 : ax_LK RX4 78 yX4_isTank := Or.inl (ax_gw 604 (by decide +kernel) rfl)
theorem lkX4_86 : ax_LK RX4 86 yX4_has := Or.inl (ax_gw 608 (by decide +kernel) rfl)
theorem lkL_26 : ax_LK RL 26 yX4_latest := Or.inl (ax_gw 611 (by decide +kernel) rfl)
theorem lkX4_89 : ax_LK RX4 89 yX4_isLiquid := Or.inl (ax_gw 615 (by decide +kernel) rfl)
theorem lkL_31 : ax_LK RL 31 yX4_cargo := Or.inl (ax_gw 618 (by decide +kernel) rfl)
theorem lkX4_95 : ax_LK RX4 95 yX4_isSet := Or.inl (ax_gw 622 (by decide +kernel) rfl)
theorem lkL_36 : ax_LK RL 36 yX4_uncargo := Or.inl (ax_gw 625 (by decide +kernel) rfl)
theorem lkX4_98 : ax_LK RX4 98 yX4_holders := Or.inl (ax_gw 629 (by decide +kernel) rfl)
theorem lkL_41 : ax_LK RL 41 yX4_amount := Or.inl (ax_gw 633 (by decide +kernel) rfl)
theorem lkX4_102 : ax_LK RX4 102 yX4_isCargo := Or.inl (ax_gw 637 (by decide +kernel) rfl)
theorem lkL_45 : ax_LK RL 45 yX4_washes := Or.inl (ax_gw 641 (by decide +kernel) rfl)
theorem lkL_50 : ax_LK RL 50 yX4_bound := Or.inl (ax_gw 645 (by decide +kernel) rfl)
theorem lkL_54 : ax_LK RL 54 yX4_ofTank := Or.inl (ax_gw 649 (by decide +kernel) rfl)
theorem lkL_58 : ax_LK RL 58 yX4_ofCargo := Or.inl (ax_gw 653 (by decide +kernel) rfl)
theorem lkX4_112 : ax_LK RX4 112 yX4_suited := Or.inl (ax_gw 657 (by decide +kernel) rfl)
theorem lkX4_108 : ax_LK RX4 108 yX4_whyNot := Or.inl (ax_gw 661 (by decide +kernel) rfl)
theorem lkX4_115 : ax_LK RX4 115 yX4_clashes := Or.inl (ax_gw 665 (by decide +kernel) rfl)
theorem lkX4_105 : ax_LK RX4 105 yX4_doClash := Or.inl (ax_gw 669 (by decide +kernel) rfl)
theorem lkL_62 : ax_LK RL 62 yX4_needs := Or.inl (ax_gw 673 (by decide +kernel) rfl)
theorem lkX4_118 : ax_LK RX4 118 yX4_washesFor := Or.inl (ax_gw 677 (by decide +kernel) rfl)
theorem lkL_66 : ax_LK RL 66 yX4_why := Or.inl (ax_gw 681 (by decide +kernel) rfl)
theorem lkL_70 : ax_LK RL 70 yX4_plan := Or.inl (ax_gw 685 (by decide +kernel) rfl)
theorem lkL_74 : ax_LK RL 74 yX4_broken := Or.inl (ax_gw 689 (by decide +kernel) rfl)
theorem lkX4_144 : ax_LK RX4 144 yX4_isSetOfCargoes := Or.inl (ax_gw 693 (by decide +kernel) rfl)
theorem lkX4_147 : ax_LK RX4 147 yX4_triesPlan := Or.inl (ax_gw 697 (by decide +kernel) rfl)
theorem lkX4_150 : ax_LK RX4 150 yX4_brokenBy := Or.inl (ax_gw 701 (by decide +kernel) rfl)
theorem lkX4_121 : ax_LK RX4 121 yX4_hasOther := Or.inl (ax_gw 705 (by decide +kernel) rfl)
theorem lkX4_124 : ax_LK RX4 124 yX4_hasUnfit := Or.inl (ax_gw 709 (by decide +kernel) rfl)
theorem lkX4_128 : ax_LK RX4 128 yX4_hasClash := Or.inl (ax_gw 713 (by decide +kernel) rfl)
theorem lkX4_131 : ax_LK RX4 131 yX4_hasTooMuch := Or.inl (ax_gw 717 (by decide +kernel) rfl)
theorem lkX4_134 : ax_LK RX4 134 yX4_fills := Or.inl (ax_gw 721 (by decide +kernel) rfl)
theorem lkX4_137 : ax_LK RX4 137 yX4_hasEmpty := Or.inl (ax_gw 725 (by decide +kernel) rfl)
theorem lkX4_140 : ax_LK RX4 140 yX4_listOf := Or.inl (ax_gw 729 (by decide +kernel) rfl)
theorem lkL_78 : ax_LK RL 78 yX4_ofPlan := Or.inl (ax_gw 733 (by decide +kernel) rfl)
theorem lkX4_153 : ax_LK RX4 153 yX4_costOf := Or.inl (ax_gw 737 (by decide +kernel) rfl)
theorem lkX4_156 : ax_LK RX4 156 yX4_usedOf := Or.inl (ax_gw 741 (by decide +kernel) rfl)
theorem kcX4_159 : Cond.constant RX4 159 (100000 : Int32) ∈ ax_GW := ax_gw 745 (by decide +kernel) rfl
theorem lkL_82 : ax_LK RL 82 yX4_best := Or.inl (ax_gw 746 (by decide +kernel) rfl)
theorem lkX4_176 : ax_LK RX4 176 yX4_findBest := Or.inl (ax_gw 750 (by decide +kernel) rfl)
theorem lkX4_163 : ax_LK RX4 163 yX4_lays := Or.inl (ax_gw 754 (by decide +kernel) rfl)
theorem lkX4_167 : ax_LK RX4 167 yX4_keepsBest := Or.inl (ax_gw 758 (by decide +kernel) rfl)
theorem lkX4_180 : ax_LK RX4 180 yX4_triesBest := Or.inl (ax_gw 762 (by decide +kernel) rfl)
theorem lkL_86 : ax_LK RL 86 yX4_taken := Or.inl (ax_gw 766 (by decide +kernel) rfl)
theorem lkX4_189 : ax_LK RX4 189 yX4_isBetter := Or.inl (ax_gw 770 (by decide +kernel) rfl)
theorem lkX4_183 : ax_LK RX4 183 yX4_amountsOf := Or.inl (ax_gw 774 (by decide +kernel) rfl)
theorem lkX4_186 : ax_LK RX4 186 yX4_sizeOf := Or.inl (ax_gw 778 (by decide +kernel) rfl)
theorem lkL_90 : ax_LK RL 90 yX4_load := Or.inl (ax_gw 781 (by decide +kernel) rfl)
theorem lkX4_192 : ax_LK RX4 192 yX4_taken := Or.inl (ax_gw 785 (by decide +kernel) rfl)
theorem lkL_94 : ax_LK RL 94 yX4_unload := Or.inl (ax_gw 786 (by decide +kernel) rfl)
theorem lkX4_198 : ax_LK RX4 198 yX4_empties := Or.inl (ax_gw 790 (by decide +kernel) rfl)
theorem lkL_98 : ax_LK RL 98 yX4_pour := Or.inl (ax_gw 794 (by decide +kernel) rfl)
theorem lkX4_201 : ax_LK RX4 201 yX4_mayTake := Or.inl (ax_gw 798 (by decide +kernel) rfl)
theorem lkL_102 : ax_LK RL 102 yX4_many := Or.inl (ax_gw 802 (by decide +kernel) rfl)
theorem lkX4_204 : ax_LK RX4 204 yX4_heldList := Or.inl (ax_gw 806 (by decide +kernel) rfl)
theorem pf_0_0 (v : Int32) : ax_PF 0 0 v := fun r h => by cases h; exact ⟨rfl, .int, by decide +kernel, rfl, rfl⟩
theorem pf_0_1 (v : Int32) : ax_PF 0 1 v := fun r h => by cases h; exact ⟨rfl, .int, by decide +kernel, rfl, rfl⟩
theorem pf_0_2 (v : Int32) : ax_PF 0 2 v := fun r h => by cases h; exact ⟨rfl, .int, by decide +kernel, rfl, rfl⟩
theorem pf_0_3 (v : Int32) : ax_PF 0 3 v := fun r h => by cases h; exact ⟨rfl, .int, by decide +kernel, rfl, rfl⟩
theorem pf_0_4 (v : Int32) : ax_PF 0 4 v := fun r h => by cases h; exact ⟨rfl, .int, by decide +kernel, rfl, rfl⟩
theorem pf_0_5 (v : Int32) : ax_PF 0 5 v := fun r h => by cases h; exact ⟨rfl, .int, by decide +kernel, rfl, rfl⟩
theorem pf_1_0 (v : Int32) : ax_PF 1 0 v := fun r h => by cases h; exact ⟨rfl, .int, by decide +kernel, rfl, rfl⟩
theorem pf_1_1 (v : Int32) : ax_PF 1 1 v := fun r h => by cases h; exact ⟨rfl, .int, by decide +kernel, rfl, rfl⟩
theorem pf_1_2 (v : Int32) : ax_PF 1 2 v := fun r h => by cases h; exact ⟨rfl, .int, by decide +kernel, rfl, rfl⟩
theorem pf_2_0 (v : Int32) : ax_PF 2 0 v := fun r h => by cases h; exact ⟨rfl, .int, by decide +kernel, rfl, rfl⟩
theorem pf_2_1 (v : Int32) : ax_PF 2 1 v := fun r h => by cases h; exact ⟨rfl, .int, by decide +kernel, rfl, rfl⟩
theorem pf_2_2 (v : Int32) : ax_PF 2 2 v := fun r h => by cases h; exact ⟨rfl, .int, by decide +kernel, rfl, rfl⟩
theorem pf_2_3 (v : Int32) : ax_PF 2 3 v := fun r h => by cases h; exact ⟨rfl, .int, by decide +kernel, rfl, rfl⟩
theorem pf_2_5 (v : Int32) : ax_PF 2 5 v := fun r h => by cases h; exact ⟨rfl, .int, by decide +kernel, rfl, rfl⟩
theorem pf_2_6 (v : Int32) : ax_PF 2 6 v := fun r h => by cases h; exact ⟨rfl, .int, by decide +kernel, rfl, rfl⟩
theorem pf_3_7 (v : Int32) : ax_PF 3 7 v := fun r h => by cases h; exact ⟨rfl, .int, by decide +kernel, rfl, rfl⟩
theorem pf_3_8 (v : Int32) : ax_PF 3 8 v := fun r h => by cases h; exact ⟨rfl, .int, by decide +kernel, rfl, rfl⟩
theorem pf_3_9 (v : Int32) : ax_PF 3 9 v := fun r h => by cases h; exact ⟨rfl, .int, by decide +kernel, rfl, rfl⟩
theorem pf_3_10 (v : Int32) : ax_PF 3 10 v := fun r h => by cases h; exact ⟨rfl, .int, by decide +kernel, rfl, rfl⟩
theorem pf_3_11_0 : ax_PF 3 11 0 := fun r h => by cases h; exact ⟨rfl, .boolean, by decide +kernel, by decide +kernel, by decide +kernel⟩
theorem pf_3_11_1 : ax_PF 3 11 1 := fun r h => by cases h; exact ⟨rfl, .boolean, by decide +kernel, by decide +kernel, by decide +kernel⟩
theorem pf_4_0 (v : Int32) : ax_PF 4 0 v := fun r h => by cases h; exact ⟨rfl, .int, by decide +kernel, rfl, rfl⟩
theorem pf_4_9 (v : Int32) : ax_PF 4 9 v := fun r h => by cases h; exact ⟨rfl, .int, by decide +kernel, rfl, rfl⟩
theorem pf_4_17 (v : Int32) : ax_PF 4 17 v := fun r h => by cases h; exact ⟨rfl, .int, by decide +kernel, rfl, rfl⟩
theorem pf_4_20 (v : Int32) : ax_PF 4 20 v := fun r h => by cases h; exact ⟨rfl, .int, by decide +kernel, rfl, rfl⟩
theorem pf_4_21 (v : Int32) : ax_PF 4 21 v := fun r h => by cases h; exact ⟨rfl, .int, by decide +kernel, rfl, rfl⟩
theorem pf_4_22 (v : Int32) : ax_PF 4 22 v := fun r h => by cases h; exact ⟨rfl, .int, by decide +kernel, rfl, rfl⟩
theorem pf_4_25 (v : Int32) : ax_PF 4 25 v := fun r h => by cases h; exact ⟨rfl, .int, by decide +kernel, rfl, rfl⟩
