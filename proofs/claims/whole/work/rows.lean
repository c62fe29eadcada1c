section
-- ===== PART A: goes FIRST, ahead of the names: the tables' words, and 'selects' of the private methods out of them =====
/-- a private method of a class that the tables say can be made, by its rows of tables_1 -/
def lw_okq (q : MethodName × Nat) : Prop := (q.1.cls ≠ "java/lang/invoke/MethodHandle" ∧ q.1.cls ≠ "java/lang/invoke/VarHandle") ∧ Cond.instantiable q.1.cls q.2 ∈ tables_1 ∧ Cond.privateMethod q.1 ∈ tables_1 ∧ Cond.instanceMethod q.1 ∈ tables_1
theorem lw_p0 : lw_okq (⟨"CargoTanks", "areTwoTanks", "(II)Z"⟩, 12) := ⟨⟨by decide +kernel, by decide +kernel⟩, List.mem_of_getElem? (i := 9) (by decide +kernel), List.mem_of_getElem? (i := 221) (by decide +kernel), List.mem_of_getElem? (i := 222) (by decide +kernel)⟩
theorem lw_p1 : lw_okq (⟨"CargoTanks", "isTank", "(I)Z"⟩, 12) := ⟨⟨by decide +kernel, by decide +kernel⟩, List.mem_of_getElem? (i := 9) (by decide +kernel), List.mem_of_getElem? (i := 225) (by decide +kernel), List.mem_of_getElem? (i := 226) (by decide +kernel)⟩
theorem lw_p2 : lw_okq (⟨"CargoTanks", "tanksThatHold", "(I)I"⟩, 12) := ⟨⟨by decide +kernel, by decide +kernel⟩, List.mem_of_getElem? (i := 9) (by decide +kernel), List.mem_of_getElem? (i := 253) (by decide +kernel), List.mem_of_getElem? (i := 254) (by decide +kernel)⟩
theorem lw_p3 : lw_okq (⟨"CargoTanks", "isCargo", "(I)Z"⟩, 12) := ⟨⟨by decide +kernel, by decide +kernel⟩, List.mem_of_getElem? (i := 9) (by decide +kernel), List.mem_of_getElem? (i := 261) (by decide +kernel), List.mem_of_getElem? (i := 262) (by decide +kernel)⟩
theorem lw_p4 : lw_okq (⟨"CargoTanks", "tanksThatSuit", "(LCargoTanks$Cargo;)I"⟩, 12) := ⟨⟨by decide +kernel, by decide +kernel⟩, List.mem_of_getElem? (i := 9) (by decide +kernel), List.mem_of_getElem? (i := 281) (by decide +kernel), List.mem_of_getElem? (i := 282) (by decide +kernel)⟩
theorem lw_p5 : lw_okq (⟨"CargoTanks", "faults", "(LCargoTanks$Tank;LCargoTanks$Cargo;)I"⟩, 12) := ⟨⟨by decide +kernel, by decide +kernel⟩, List.mem_of_getElem? (i := 9) (by decide +kernel), List.mem_of_getElem? (i := 285) (by decide +kernel), List.mem_of_getElem? (i := 286) (by decide +kernel)⟩
theorem lw_p6 : lw_okq (⟨"CargoTanks", "cargoesThatClash", "(LCargoTanks$Cargo;)I"⟩, 12) := ⟨⟨by decide +kernel, by decide +kernel⟩, List.mem_of_getElem? (i := 9) (by decide +kernel), List.mem_of_getElem? (i := 289) (by decide +kernel), List.mem_of_getElem? (i := 290) (by decide +kernel)⟩
theorem lw_p7 : lw_okq (⟨"CargoTanks", "washesNeeded", "(LCargoTanks$Tank;LCargoTanks$Cargo;)I"⟩, 12) := ⟨⟨by decide +kernel, by decide +kernel⟩, List.mem_of_getElem? (i := 9) (by decide +kernel), List.mem_of_getElem? (i := 300) (by decide +kernel), List.mem_of_getElem? (i := 301) (by decide +kernel)⟩
theorem lw_p8 : lw_okq (⟨"CargoTanks", "isCargoSet", "(I)Z"⟩, 12) := ⟨⟨by decide +kernel, by decide +kernel⟩, List.mem_of_getElem? (i := 9) (by decide +kernel), List.mem_of_getElem? (i := 316) (by decide +kernel), List.mem_of_getElem? (i := 317) (by decide +kernel)⟩
theorem lw_p9 : lw_okq (⟨"CargoTanks", "toldGoesBeyond", "(I)Z"⟩, 12) := ⟨⟨by decide +kernel, by decide +kernel⟩, List.mem_of_getElem? (i := 9) (by decide +kernel), List.mem_of_getElem? (i := 320) (by decide +kernel), List.mem_of_getElem? (i := 321) (by decide +kernel)⟩
theorem lw_p10 : lw_okq (⟨"CargoTanks", "toldDoesNotSuit", "()Z"⟩, 12) := ⟨⟨by decide +kernel, by decide +kernel⟩, List.mem_of_getElem? (i := 9) (by decide +kernel), List.mem_of_getElem? (i := 324) (by decide +kernel), List.mem_of_getElem? (i := 325) (by decide +kernel)⟩
theorem lw_p11 : lw_okq (⟨"CargoTanks", "toldClashes", "()Z"⟩, 12) := ⟨⟨by decide +kernel, by decide +kernel⟩, List.mem_of_getElem? (i := 9) (by decide +kernel), List.mem_of_getElem? (i := 328) (by decide +kernel), List.mem_of_getElem? (i := 329) (by decide +kernel)⟩
theorem lw_p12 : lw_okq (⟨"CargoTanks", "stowTold", "()V"⟩, 12) := ⟨⟨by decide +kernel, by decide +kernel⟩, List.mem_of_getElem? (i := 9) (by decide +kernel), List.mem_of_getElem? (i := 332) (by decide +kernel), List.mem_of_getElem? (i := 333) (by decide +kernel)⟩
theorem lw_p13 : lw_okq (⟨"CargoTanks", "toldLeavesSomeOf", "(I)Z"⟩, 12) := ⟨⟨by decide +kernel, by decide +kernel⟩, List.mem_of_getElem? (i := 9) (by decide +kernel), List.mem_of_getElem? (i := 339) (by decide +kernel), List.mem_of_getElem? (i := 340) (by decide +kernel)⟩
theorem lw_p14 : lw_okq (⟨"CargoTanks", "toldLeavesTankEmpty", "()Z"⟩, 12) := ⟨⟨by decide +kernel, by decide +kernel⟩, List.mem_of_getElem? (i := 9) (by decide +kernel), List.mem_of_getElem? (i := 343) (by decide +kernel), List.mem_of_getElem? (i := 344) (by decide +kernel)⟩
theorem lw_p15 : lw_okq (⟨"CargoTanks", "toldList", "()I"⟩, 12) := ⟨⟨by decide +kernel, by decide +kernel⟩, List.mem_of_getElem? (i := 9) (by decide +kernel), List.mem_of_getElem? (i := 347) (by decide +kernel), List.mem_of_getElem? (i := 348) (by decide +kernel)⟩
def lw_privs_1 : List (MethodName × Nat) := [(⟨"CargoTanks", "areTwoTanks", "(II)Z"⟩, 12), (⟨"CargoTanks", "isTank", "(I)Z"⟩, 12), (⟨"CargoTanks", "tanksThatHold", "(I)I"⟩, 12), (⟨"CargoTanks", "isCargo", "(I)Z"⟩, 12), (⟨"CargoTanks", "tanksThatSuit", "(LCargoTanks$Cargo;)I"⟩, 12), (⟨"CargoTanks", "faults", "(LCargoTanks$Tank;LCargoTanks$Cargo;)I"⟩, 12), (⟨"CargoTanks", "cargoesThatClash", "(LCargoTanks$Cargo;)I"⟩, 12), (⟨"CargoTanks", "washesNeeded", "(LCargoTanks$Tank;LCargoTanks$Cargo;)I"⟩, 12), (⟨"CargoTanks", "isCargoSet", "(I)Z"⟩, 12), (⟨"CargoTanks", "toldGoesBeyond", "(I)Z"⟩, 12), (⟨"CargoTanks", "toldDoesNotSuit", "()Z"⟩, 12), (⟨"CargoTanks", "toldClashes", "()Z"⟩, 12), (⟨"CargoTanks", "stowTold", "()V"⟩, 12), (⟨"CargoTanks", "toldLeavesSomeOf", "(I)Z"⟩, 12), (⟨"CargoTanks", "toldLeavesTankEmpty", "()Z"⟩, 12), (⟨"CargoTanks", "toldList", "()I"⟩, 12)]
theorem lw_r1 : ∀ q ∈ lw_privs_1, lw_okq q := List.forall_mem_cons.mpr ⟨lw_p0, List.forall_mem_cons.mpr ⟨lw_p1, List.forall_mem_cons.mpr ⟨lw_p2, List.forall_mem_cons.mpr ⟨lw_p3, List.forall_mem_cons.mpr ⟨lw_p4, List.forall_mem_cons.mpr ⟨lw_p5, List.forall_mem_cons.mpr ⟨lw_p6, List.forall_mem_cons.mpr ⟨lw_p7, List.forall_mem_cons.mpr ⟨lw_p8, List.forall_mem_cons.mpr ⟨lw_p9, List.forall_mem_cons.mpr ⟨lw_p10, List.forall_mem_cons.mpr ⟨lw_p11, List.forall_mem_cons.mpr ⟨lw_p12, List.forall_mem_cons.mpr ⟨lw_p13, List.forall_mem_cons.mpr ⟨lw_p14, List.forall_mem_cons.mpr ⟨lw_p15, fun _ h => absurd h List.not_mem_nil⟩⟩⟩⟩⟩⟩⟩⟩⟩⟩⟩⟩⟩⟩⟩⟩
theorem lw_p16 : lw_okq (⟨"CargoTanks", "toldCost", "()I"⟩, 12) := ⟨⟨by decide +kernel, by decide +kernel⟩, List.mem_of_getElem? (i := 9) (by decide +kernel), List.mem_of_getElem? (i := 358) (by decide +kernel), List.mem_of_getElem? (i := 359) (by decide +kernel)⟩
theorem lw_p17 : lw_okq (⟨"CargoTanks", "toldTanks", "()I"⟩, 12) := ⟨⟨by decide +kernel, by decide +kernel⟩, List.mem_of_getElem? (i := 9) (by decide +kernel), List.mem_of_getElem? (i := 362) (by decide +kernel), List.mem_of_getElem? (i := 363) (by decide +kernel)⟩
theorem lw_p18 : lw_okq (⟨"CargoTanks", "searchIfStale", "()V"⟩, 12) := ⟨⟨by decide +kernel, by decide +kernel⟩, List.mem_of_getElem? (i := 9) (by decide +kernel), List.mem_of_getElem? (i := 371) (by decide +kernel), List.mem_of_getElem? (i := 372) (by decide +kernel)⟩
theorem lw_p19 : lw_okq (⟨"CargoTanks", "noteCargoes", "()V"⟩, 12) := ⟨⟨by decide +kernel, by decide +kernel⟩, List.mem_of_getElem? (i := 9) (by decide +kernel), List.mem_of_getElem? (i := 375) (by decide +kernel), List.mem_of_getElem? (i := 376) (by decide +kernel)⟩
theorem lw_p20 : lw_okq (⟨"CargoTanks", "noteTanks", "()V"⟩, 12) := ⟨⟨by decide +kernel, by decide +kernel⟩, List.mem_of_getElem? (i := 9) (by decide +kernel), List.mem_of_getElem? (i := 379) (by decide +kernel), List.mem_of_getElem? (i := 380) (by decide +kernel)⟩
theorem lw_p21 : lw_okq (⟨"CargoTanks$Search", "keepIfBetter", "(I)V"⟩, 20) := ⟨⟨by decide +kernel, by decide +kernel⟩, List.mem_of_getElem? (i := 21) (by decide +kernel), List.mem_of_getElem? (i := 386) (by decide +kernel), List.mem_of_getElem? (i := 387) (by decide +kernel)⟩
theorem lw_p22 : lw_okq (⟨"CargoTanks$Search", "openTo", "(I)I"⟩, 20) := ⟨⟨by decide +kernel, by decide +kernel⟩, List.mem_of_getElem? (i := 21) (by decide +kernel), List.mem_of_getElem? (i := 391) (by decide +kernel), List.mem_of_getElem? (i := 392) (by decide +kernel)⟩
theorem lw_p23 : lw_okq (⟨"CargoTanks", "takenSet", "()I"⟩, 12) := ⟨⟨by decide +kernel, by decide +kernel⟩, List.mem_of_getElem? (i := 9) (by decide +kernel), List.mem_of_getElem? (i := 400) (by decide +kernel), List.mem_of_getElem? (i := 401) (by decide +kernel)⟩
theorem lw_p24 : lw_okq (⟨"CargoTanks", "amountsOf", "(I)I"⟩, 12) := ⟨⟨by decide +kernel, by decide +kernel⟩, List.mem_of_getElem? (i := 9) (by decide +kernel), List.mem_of_getElem? (i := 404) (by decide +kernel), List.mem_of_getElem? (i := 405) (by decide +kernel)⟩
theorem lw_p25 : lw_okq (⟨"CargoTanks", "tanksInUse", "()I"⟩, 12) := ⟨⟨by decide +kernel, by decide +kernel⟩, List.mem_of_getElem? (i := 9) (by decide +kernel), List.mem_of_getElem? (i := 418) (by decide +kernel), List.mem_of_getElem? (i := 419) (by decide +kernel)⟩
theorem lw_p26 : lw_okq (⟨"CargoTanks$Tank", "leaveEmpty", "(I)V"⟩, 7) := ⟨⟨by decide +kernel, by decide +kernel⟩, List.mem_of_getElem? (i := 108) (by decide +kernel), List.mem_of_getElem? (i := 426) (by decide +kernel), List.mem_of_getElem? (i := 427) (by decide +kernel)⟩
theorem lw_p27 : lw_okq (⟨"CargoTanks", "mayComeInto", "(LCargoTanks$Tank;LCargoTanks$Cargo;)Z"⟩, 12) := ⟨⟨by decide +kernel, by decide +kernel⟩, List.mem_of_getElem? (i := 9) (by decide +kernel), List.mem_of_getElem? (i := 434) (by decide +kernel), List.mem_of_getElem? (i := 435) (by decide +kernel)⟩
theorem lw_p28 : lw_okq (⟨"CargoTanks", "heldList", "()I"⟩, 12) := ⟨⟨by decide +kernel, by decide +kernel⟩, List.mem_of_getElem? (i := 9) (by decide +kernel), List.mem_of_getElem? (i := 442) (by decide +kernel), List.mem_of_getElem? (i := 443) (by decide +kernel)⟩
theorem lw_p29 : lw_okq (⟨"CargoTanksModel", "areTwo", "(II)Z"⟩, 26) := ⟨⟨by decide +kernel, by decide +kernel⟩, List.mem_of_getElem? (i := 446) (by decide +kernel), List.mem_of_getElem? (i := 542) (by decide +kernel), List.mem_of_getElem? (i := 543) (by decide +kernel)⟩
theorem lw_p30 : lw_okq (⟨"CargoTanksModel", "isTank", "(I)Z"⟩, 26) := ⟨⟨by decide +kernel, by decide +kernel⟩, List.mem_of_getElem? (i := 446) (by decide +kernel), List.mem_of_getElem? (i := 546) (by decide +kernel), List.mem_of_getElem? (i := 547) (by decide +kernel)⟩
theorem lw_p31 : lw_okq (⟨"CargoTanksModel", "holders", "(I)I"⟩, 26) := ⟨⟨by decide +kernel, by decide +kernel⟩, List.mem_of_getElem? (i := 446) (by decide +kernel), List.mem_of_getElem? (i := 571) (by decide +kernel), List.mem_of_getElem? (i := 572) (by decide +kernel)⟩
def lw_privs_2 : List (MethodName × Nat) := [(⟨"CargoTanks", "toldCost", "()I"⟩, 12), (⟨"CargoTanks", "toldTanks", "()I"⟩, 12), (⟨"CargoTanks", "searchIfStale", "()V"⟩, 12), (⟨"CargoTanks", "noteCargoes", "()V"⟩, 12), (⟨"CargoTanks", "noteTanks", "()V"⟩, 12), (⟨"CargoTanks$Search", "keepIfBetter", "(I)V"⟩, 20), (⟨"CargoTanks$Search", "openTo", "(I)I"⟩, 20), (⟨"CargoTanks", "takenSet", "()I"⟩, 12), (⟨"CargoTanks", "amountsOf", "(I)I"⟩, 12), (⟨"CargoTanks", "tanksInUse", "()I"⟩, 12), (⟨"CargoTanks$Tank", "leaveEmpty", "(I)V"⟩, 7), (⟨"CargoTanks", "mayComeInto", "(LCargoTanks$Tank;LCargoTanks$Cargo;)Z"⟩, 12), (⟨"CargoTanks", "heldList", "()I"⟩, 12), (⟨"CargoTanksModel", "areTwo", "(II)Z"⟩, 26), (⟨"CargoTanksModel", "isTank", "(I)Z"⟩, 26), (⟨"CargoTanksModel", "holders", "(I)I"⟩, 26)]
theorem lw_r2 : ∀ q ∈ lw_privs_2, lw_okq q := List.forall_mem_cons.mpr ⟨lw_p16, List.forall_mem_cons.mpr ⟨lw_p17, List.forall_mem_cons.mpr ⟨lw_p18, List.forall_mem_cons.mpr ⟨lw_p19, List.forall_mem_cons.mpr ⟨lw_p20, List.forall_mem_cons.mpr ⟨lw_p21, List.forall_mem_cons.mpr ⟨lw_p22, List.forall_mem_cons.mpr ⟨lw_p23, List.forall_mem_cons.mpr ⟨lw_p24, List.forall_mem_cons.mpr ⟨lw_p25, List.forall_mem_cons.mpr ⟨lw_p26, List.forall_mem_cons.mpr ⟨lw_p27, List.forall_mem_cons.mpr ⟨lw_p28, List.forall_mem_cons.mpr ⟨lw_p29, List.forall_mem_cons.mpr ⟨lw_p30, List.forall_mem_cons.mpr ⟨lw_p31, fun _ h => absurd h List.not_mem_nil⟩⟩⟩⟩⟩⟩⟩⟩⟩⟩⟩⟩⟩⟩⟩⟩
theorem lw_p32 : lw_okq (⟨"CargoTanksModel", "isCargo", "(I)Z"⟩, 26) := ⟨⟨by decide +kernel, by decide +kernel⟩, List.mem_of_getElem? (i := 446) (by decide +kernel), List.mem_of_getElem? (i := 579) (by decide +kernel), List.mem_of_getElem? (i := 580) (by decide +kernel)⟩
theorem lw_p33 : lw_okq (⟨"CargoTanksModel", "suited", "(I)I"⟩, 26) := ⟨⟨by decide +kernel, by decide +kernel⟩, List.mem_of_getElem? (i := 446) (by decide +kernel), List.mem_of_getElem? (i := 599) (by decide +kernel), List.mem_of_getElem? (i := 600) (by decide +kernel)⟩
theorem lw_p34 : lw_okq (⟨"CargoTanksModel", "whyNot", "(II)I"⟩, 26) := ⟨⟨by decide +kernel, by decide +kernel⟩, List.mem_of_getElem? (i := 446) (by decide +kernel), List.mem_of_getElem? (i := 603) (by decide +kernel), List.mem_of_getElem? (i := 604) (by decide +kernel)⟩
theorem lw_p35 : lw_okq (⟨"CargoTanksModel", "clashes", "(I)I"⟩, 26) := ⟨⟨by decide +kernel, by decide +kernel⟩, List.mem_of_getElem? (i := 446) (by decide +kernel), List.mem_of_getElem? (i := 607) (by decide +kernel), List.mem_of_getElem? (i := 608) (by decide +kernel)⟩
theorem lw_p36 : lw_okq (⟨"CargoTanksModel", "doClash", "(II)Z"⟩, 26) := ⟨⟨by decide +kernel, by decide +kernel⟩, List.mem_of_getElem? (i := 446) (by decide +kernel), List.mem_of_getElem? (i := 611) (by decide +kernel), List.mem_of_getElem? (i := 612) (by decide +kernel)⟩
theorem lw_p37 : lw_okq (⟨"CargoTanksModel", "washesFor", "(II)I"⟩, 26) := ⟨⟨by decide +kernel, by decide +kernel⟩, List.mem_of_getElem? (i := 446) (by decide +kernel), List.mem_of_getElem? (i := 619) (by decide +kernel), List.mem_of_getElem? (i := 620) (by decide +kernel)⟩
theorem lw_p38 : lw_okq (⟨"CargoTanksModel", "isSetOfCargoes", "(I)Z"⟩, 26) := ⟨⟨by decide +kernel, by decide +kernel⟩, List.mem_of_getElem? (i := 446) (by decide +kernel), List.mem_of_getElem? (i := 635) (by decide +kernel), List.mem_of_getElem? (i := 636) (by decide +kernel)⟩
theorem lw_p39 : lw_okq (⟨"CargoTanksModel", "triesPlan", "()V"⟩, 26) := ⟨⟨by decide +kernel, by decide +kernel⟩, List.mem_of_getElem? (i := 446) (by decide +kernel), List.mem_of_getElem? (i := 639) (by decide +kernel), List.mem_of_getElem? (i := 640) (by decide +kernel)⟩
theorem lw_p40 : lw_okq (⟨"CargoTanksModel", "brokenBy", "(I)I"⟩, 26) := ⟨⟨by decide +kernel, by decide +kernel⟩, List.mem_of_getElem? (i := 446) (by decide +kernel), List.mem_of_getElem? (i := 643) (by decide +kernel), List.mem_of_getElem? (i := 644) (by decide +kernel)⟩
theorem lw_p41 : lw_okq (⟨"CargoTanksModel", "hasOther", "(I)Z"⟩, 26) := ⟨⟨by decide +kernel, by decide +kernel⟩, List.mem_of_getElem? (i := 446) (by decide +kernel), List.mem_of_getElem? (i := 647) (by decide +kernel), List.mem_of_getElem? (i := 648) (by decide +kernel)⟩
theorem lw_p42 : lw_okq (⟨"CargoTanksModel", "hasUnfit", "()Z"⟩, 26) := ⟨⟨by decide +kernel, by decide +kernel⟩, List.mem_of_getElem? (i := 446) (by decide +kernel), List.mem_of_getElem? (i := 651) (by decide +kernel), List.mem_of_getElem? (i := 652) (by decide +kernel)⟩
theorem lw_p43 : lw_okq (⟨"CargoTanksModel", "hasClash", "()Z"⟩, 26) := ⟨⟨by decide +kernel, by decide +kernel⟩, List.mem_of_getElem? (i := 446) (by decide +kernel), List.mem_of_getElem? (i := 655) (by decide +kernel), List.mem_of_getElem? (i := 656) (by decide +kernel)⟩
theorem lw_p44 : lw_okq (⟨"CargoTanksModel", "hasTooMuch", "(I)Z"⟩, 26) := ⟨⟨by decide +kernel, by decide +kernel⟩, List.mem_of_getElem? (i := 446) (by decide +kernel), List.mem_of_getElem? (i := 659) (by decide +kernel), List.mem_of_getElem? (i := 660) (by decide +kernel)⟩
theorem lw_p45 : lw_okq (⟨"CargoTanksModel", "fills", "()V"⟩, 26) := ⟨⟨by decide +kernel, by decide +kernel⟩, List.mem_of_getElem? (i := 446) (by decide +kernel), List.mem_of_getElem? (i := 663) (by decide +kernel), List.mem_of_getElem? (i := 664) (by decide +kernel)⟩
theorem lw_p46 : lw_okq (⟨"CargoTanksModel", "hasEmpty", "()Z"⟩, 26) := ⟨⟨by decide +kernel, by decide +kernel⟩, List.mem_of_getElem? (i := 446) (by decide +kernel), List.mem_of_getElem? (i := 667) (by decide +kernel), List.mem_of_getElem? (i := 668) (by decide +kernel)⟩
theorem lw_p47 : lw_okq (⟨"CargoTanksModel", "listOf", "()I"⟩, 26) := ⟨⟨by decide +kernel, by decide +kernel⟩, List.mem_of_getElem? (i := 446) (by decide +kernel), List.mem_of_getElem? (i := 671) (by decide +kernel), List.mem_of_getElem? (i := 672) (by decide +kernel)⟩
def lw_privs_3 : List (MethodName × Nat) := [(⟨"CargoTanksModel", "isCargo", "(I)Z"⟩, 26), (⟨"CargoTanksModel", "suited", "(I)I"⟩, 26), (⟨"CargoTanksModel", "whyNot", "(II)I"⟩, 26), (⟨"CargoTanksModel", "clashes", "(I)I"⟩, 26), (⟨"CargoTanksModel", "doClash", "(II)Z"⟩, 26), (⟨"CargoTanksModel", "washesFor", "(II)I"⟩, 26), (⟨"CargoTanksModel", "isSetOfCargoes", "(I)Z"⟩, 26), (⟨"CargoTanksModel", "triesPlan", "()V"⟩, 26), (⟨"CargoTanksModel", "brokenBy", "(I)I"⟩, 26), (⟨"CargoTanksModel", "hasOther", "(I)Z"⟩, 26), (⟨"CargoTanksModel", "hasUnfit", "()Z"⟩, 26), (⟨"CargoTanksModel", "hasClash", "()Z"⟩, 26), (⟨"CargoTanksModel", "hasTooMuch", "(I)Z"⟩, 26), (⟨"CargoTanksModel", "fills", "()V"⟩, 26), (⟨"CargoTanksModel", "hasEmpty", "()Z"⟩, 26), (⟨"CargoTanksModel", "listOf", "()I"⟩, 26)]
theorem lw_r3 : ∀ q ∈ lw_privs_3, lw_okq q := List.forall_mem_cons.mpr ⟨lw_p32, List.forall_mem_cons.mpr ⟨lw_p33, List.forall_mem_cons.mpr ⟨lw_p34, List.forall_mem_cons.mpr ⟨lw_p35, List.forall_mem_cons.mpr ⟨lw_p36, List.forall_mem_cons.mpr ⟨lw_p37, List.forall_mem_cons.mpr ⟨lw_p38, List.forall_mem_cons.mpr ⟨lw_p39, List.forall_mem_cons.mpr ⟨lw_p40, List.forall_mem_cons.mpr ⟨lw_p41, List.forall_mem_cons.mpr ⟨lw_p42, List.forall_mem_cons.mpr ⟨lw_p43, List.forall_mem_cons.mpr ⟨lw_p44, List.forall_mem_cons.mpr ⟨lw_p45, List.forall_mem_cons.mpr ⟨lw_p46, List.forall_mem_cons.mpr ⟨lw_p47, fun _ h => absurd h List.not_mem_nil⟩⟩⟩⟩⟩⟩⟩⟩⟩⟩⟩⟩⟩⟩⟩⟩
theorem lw_p48 : lw_okq (⟨"CargoTanksModel", "costOf", "()I"⟩, 26) := ⟨⟨by decide +kernel, by decide +kernel⟩, List.mem_of_getElem? (i := 446) (by decide +kernel), List.mem_of_getElem? (i := 679) (by decide +kernel), List.mem_of_getElem? (i := 680) (by decide +kernel)⟩
theorem lw_p49 : lw_okq (⟨"CargoTanksModel", "usedOf", "()I"⟩, 26) := ⟨⟨by decide +kernel, by decide +kernel⟩, List.mem_of_getElem? (i := 446) (by decide +kernel), List.mem_of_getElem? (i := 683) (by decide +kernel), List.mem_of_getElem? (i := 684) (by decide +kernel)⟩
theorem lw_p50 : lw_okq (⟨"CargoTanksModel", "findBest", "(I)V"⟩, 26) := ⟨⟨by decide +kernel, by decide +kernel⟩, List.mem_of_getElem? (i := 446) (by decide +kernel), List.mem_of_getElem? (i := 692) (by decide +kernel), List.mem_of_getElem? (i := 693) (by decide +kernel)⟩
theorem lw_p51 : lw_okq (⟨"CargoTanksModel", "lays", "(II)V"⟩, 26) := ⟨⟨by decide +kernel, by decide +kernel⟩, List.mem_of_getElem? (i := 446) (by decide +kernel), List.mem_of_getElem? (i := 696) (by decide +kernel), List.mem_of_getElem? (i := 697) (by decide +kernel)⟩
theorem lw_p52 : lw_okq (⟨"CargoTanksModel", "keepsBest", "()V"⟩, 26) := ⟨⟨by decide +kernel, by decide +kernel⟩, List.mem_of_getElem? (i := 446) (by decide +kernel), List.mem_of_getElem? (i := 700) (by decide +kernel), List.mem_of_getElem? (i := 701) (by decide +kernel)⟩
theorem lw_p53 : lw_okq (⟨"CargoTanksModel", "triesBest", "()V"⟩, 26) := ⟨⟨by decide +kernel, by decide +kernel⟩, List.mem_of_getElem? (i := 446) (by decide +kernel), List.mem_of_getElem? (i := 704) (by decide +kernel), List.mem_of_getElem? (i := 705) (by decide +kernel)⟩
theorem lw_p54 : lw_okq (⟨"CargoTanksModel", "isBetter", "(II)Z"⟩, 26) := ⟨⟨by decide +kernel, by decide +kernel⟩, List.mem_of_getElem? (i := 446) (by decide +kernel), List.mem_of_getElem? (i := 712) (by decide +kernel), List.mem_of_getElem? (i := 713) (by decide +kernel)⟩
theorem lw_p55 : lw_okq (⟨"CargoTanksModel", "amountsOf", "(I)I"⟩, 26) := ⟨⟨by decide +kernel, by decide +kernel⟩, List.mem_of_getElem? (i := 446) (by decide +kernel), List.mem_of_getElem? (i := 716) (by decide +kernel), List.mem_of_getElem? (i := 717) (by decide +kernel)⟩
theorem lw_p56 : lw_okq (⟨"CargoTanksModel", "empties", "(I)V"⟩, 26) := ⟨⟨by decide +kernel, by decide +kernel⟩, List.mem_of_getElem? (i := 446) (by decide +kernel), List.mem_of_getElem? (i := 732) (by decide +kernel), List.mem_of_getElem? (i := 733) (by decide +kernel)⟩
theorem lw_p57 : lw_okq (⟨"CargoTanksModel", "mayTake", "(II)Z"⟩, 26) := ⟨⟨by decide +kernel, by decide +kernel⟩, List.mem_of_getElem? (i := 446) (by decide +kernel), List.mem_of_getElem? (i := 740) (by decide +kernel), List.mem_of_getElem? (i := 741) (by decide +kernel)⟩
theorem lw_p58 : lw_okq (⟨"CargoTanksModel", "heldList", "()I"⟩, 26) := ⟨⟨by decide +kernel, by decide +kernel⟩, List.mem_of_getElem? (i := 446) (by decide +kernel), List.mem_of_getElem? (i := 748) (by decide +kernel), List.mem_of_getElem? (i := 749) (by decide +kernel)⟩
def lw_privs_4 : List (MethodName × Nat) := [(⟨"CargoTanksModel", "costOf", "()I"⟩, 26), (⟨"CargoTanksModel", "usedOf", "()I"⟩, 26), (⟨"CargoTanksModel", "findBest", "(I)V"⟩, 26), (⟨"CargoTanksModel", "lays", "(II)V"⟩, 26), (⟨"CargoTanksModel", "keepsBest", "()V"⟩, 26), (⟨"CargoTanksModel", "triesBest", "()V"⟩, 26), (⟨"CargoTanksModel", "isBetter", "(II)Z"⟩, 26), (⟨"CargoTanksModel", "amountsOf", "(I)I"⟩, 26), (⟨"CargoTanksModel", "empties", "(I)V"⟩, 26), (⟨"CargoTanksModel", "mayTake", "(II)Z"⟩, 26), (⟨"CargoTanksModel", "heldList", "()I"⟩, 26)]
theorem lw_r4 : ∀ q ∈ lw_privs_4, lw_okq q := List.forall_mem_cons.mpr ⟨lw_p48, List.forall_mem_cons.mpr ⟨lw_p49, List.forall_mem_cons.mpr ⟨lw_p50, List.forall_mem_cons.mpr ⟨lw_p51, List.forall_mem_cons.mpr ⟨lw_p52, List.forall_mem_cons.mpr ⟨lw_p53, List.forall_mem_cons.mpr ⟨lw_p54, List.forall_mem_cons.mpr ⟨lw_p55, List.forall_mem_cons.mpr ⟨lw_p56, List.forall_mem_cons.mpr ⟨lw_p57, List.forall_mem_cons.mpr ⟨lw_p58, fun _ h => absurd h List.not_mem_nil⟩⟩⟩⟩⟩⟩⟩⟩⟩⟩⟩
def lw_privs : List (MethodName × Nat) := lw_privs_1 ++ (lw_privs_2 ++ (lw_privs_3 ++ (lw_privs_4)))
def lw_tbl : List Cond := k2_sels lw_privs ++ tables_1
theorem lw_privs_ok : ∀ q ∈ lw_privs, lw_okq q := by
  show ∀ q ∈ lw_privs_1 ++ (lw_privs_2 ++ (lw_privs_3 ++ (lw_privs_4))), lw_okq q
  exact List.forall_mem_append.mpr ⟨lw_r1, List.forall_mem_append.mpr ⟨lw_r2, List.forall_mem_append.mpr ⟨lw_r3, lw_r4⟩⟩⟩
end
section
def RX0 : String := "CargoTanks$Cargo"
def TX0 : u_T := fun k => match k with
  | 0 => ("CargoTanks$Cargo", "liquid", "I", false)
  | 1 => ("CargoTanks$Cargo", "amount", "I", false)
  | 2 => ("CargoTanks$Cargo", "coats", "I", false)
  | 3 => ("CargoTanks$Cargo", "behind", "I", false)
  | 4 => ("CargoTanks$Cargo", "never", "I", false)
  | _ => ("CargoTanks$Cargo", "near", "I", false)
def tyX0 : Nat → FieldType := fun k => match k with
  | 0 => .int
  | 1 => .int
  | 2 => .int
  | 3 => .int
  | 4 => .int
  | _ => .int
theorem nmX0 : ∀ a, a < 6 → ∀ b, b < 6 → a ≠ b → (TX0 a).2.1 ≠ (TX0 b).2.1 := by decide +kernel
theorem tyX0_ok : ∀ k, k < 6 → parseFieldDescriptor (TX0 k).2.2.1 = some (tyX0 k) := by decide +kernel
abbrev cX0_init : ByteArray := prog_2_method_1_code
def yX0_init : MethodName := ⟨RX0, "<init>", "()V"⟩
def RX1 : String := "CargoTanks$Search"
def TX1 : u_T := fun k => match k with
  | 0 => ("CargoTanks$Search", "tankCount", "I", false)
  | 1 => ("CargoTanks$Search", "cargoCount", "I", false)
  | 2 => ("CargoTanks$Search", "listBound", "I", false)
  | 3 => ("CargoTanks$Search", "volume", "[I", true)
  | 4 => ("CargoTanks$Search", "lever", "[I", true)
  | 5 => ("CargoTanks$Search", "beside", "[I", true)
  | 6 => ("CargoTanks$Search", "roomFrom", "[I", true)
  | 7 => ("CargoTanks$Search", "suiting", "[I", true)
  | 8 => ("CargoTanks$Search", "needed", "[I", true)
  | 9 => ("CargoTanks$Search", "amount", "[I", true)
  | 10 => ("CargoTanks$Search", "clashing", "[I", true)
  | 11 => ("CargoTanks$Search", "left", "[I", true)
  | 12 => ("CargoTanks$Search", "row", "[I", true)
  | 13 => ("CargoTanks$Search", "fill", "[I", true)
  | 14 => ("CargoTanks$Search", "right", "[I", true)
  | 15 => ("CargoTanks$Search", "bestCost", "[I", true)
  | 16 => ("CargoTanks$Search", "bestTanks", "[I", true)
  | 17 => ("CargoTanks$Search", "bestList", "[I", true)
  | 18 => ("CargoTanks$Search", "bestRow", "[I", true)
  | _ => ("CargoTanks$Search", "bestFill", "[I", true)
def tyX1 : Nat → FieldType := fun k => match k with
  | 0 => .int
  | 1 => .int
  | 2 => .int
  | 3 => .array .int
  | 4 => .array .int
  | 5 => .array .int
  | 6 => .array .int
  | 7 => .array .int
  | 8 => .array .int
  | 9 => .array .int
  | 10 => .array .int
  | 11 => .array .int
  | 12 => .array .int
  | 13 => .array .int
  | 14 => .array .int
  | 15 => .array .int
  | 16 => .array .int
  | 17 => .array .int
  | 18 => .array .int
  | _ => .array .int
theorem nmX1 : ∀ a, a < 20 → ∀ b, b < 20 → a ≠ b → (TX1 a).2.1 ≠ (TX1 b).2.1 := by decide +kernel
theorem tyX1_ok : ∀ k, k < 20 → parseFieldDescriptor (TX1 k).2.2.1 = some (tyX1 k) := by decide +kernel
abbrev cX1_init : ByteArray := prog_3_method_1_code
def yX1_init : MethodName := ⟨RX1, "<init>", "()V"⟩
abbrev cX1_openTo : ByteArray := prog_3_method_2_code
def yX1_openTo : MethodName := ⟨RX1, "openTo", "(I)I"⟩
abbrev cX1_keepIfBetter : ByteArray := prog_3_method_3_code
def yX1_keepIfBetter : MethodName := ⟨RX1, "keepIfBetter", "(I)V"⟩
def RX2 : String := "CargoTanks$Tank"
def TX2 : u_T := fun k => match k with
  | 0 => ("CargoTanks$Tank", "volume", "I", false)
  | 1 => ("CargoTanks$Tank", "coat", "I", false)
  | 2 => ("CargoTanks$Tank", "lever", "I", false)
  | 3 => ("CargoTanks$Tank", "beside", "I", false)
  | 4 => ("CargoTanks$Tank", "latest", "[I", true)
  | 5 => ("CargoTanks$Tank", "holds", "I", false)
  | _ => ("CargoTanks$Tank", "held", "I", false)
def tyX2 : Nat → FieldType := fun k => match k with
  | 0 => .int
  | 1 => .int
  | 2 => .int
  | 3 => .int
  | 4 => .array .int
  | 5 => .int
  | _ => .int
theorem nmX2 : ∀ a, a < 7 → ∀ b, b < 7 → a ≠ b → (TX2 a).2.1 ≠ (TX2 b).2.1 := by decide +kernel
theorem tyX2_ok : ∀ k, k < 7 → parseFieldDescriptor (TX2 k).2.2.1 = some (tyX2 k) := by decide +kernel
abbrev cX2_init : ByteArray := prog_4_method_1_code
def yX2_init : MethodName := ⟨RX2, "<init>", "()V"⟩
abbrev cX2_leaveEmpty : ByteArray := prog_4_method_2_code
def yX2_leaveEmpty : MethodName := ⟨RX2, "leaveEmpty", "(I)V"⟩
def RX3 : String := "CargoTanks"
def TX3 : u_T := fun k => match k with
  | 0 => ("CargoTanks", "tanks", "[LCargoTanks$Tank;", true)
  | 1 => ("CargoTanks", "cargoes", "[LCargoTanks$Cargo;", true)
  | 2 => ("CargoTanks", "washTable", "[I", true)
  | 3 => ("CargoTanks", "search", "LCargoTanks$Search;", true)
  | 4 => ("CargoTanks", "told", "[I", true)
  | 5 => ("CargoTanks", "toldFill", "[I", true)
  | 6 => ("CargoTanks", "toldLeft", "[I", true)
  | 7 => ("CargoTanks", "tankCount", "I", false)
  | 8 => ("CargoTanks", "cargoCount", "I", false)
  | 9 => ("CargoTanks", "listBound", "I", false)
  | 10 => ("CargoTanks", "washesDone", "I", false)
  | _ => ("CargoTanks", "searched", "Z", false)
def tyX3 : Nat → FieldType := fun k => match k with
  | 0 => .array (.object "CargoTanks$Tank")
  | 1 => .array (.object "CargoTanks$Cargo")
  | 2 => .array .int
  | 3 => .object "CargoTanks$Search"
  | 4 => .array .int
  | 5 => .array .int
  | 6 => .array .int
  | 7 => .int
  | 8 => .int
  | 9 => .int
  | 10 => .int
  | _ => .boolean
theorem nmX3 : ∀ a, a < 12 → ∀ b, b < 12 → a ≠ b → (TX3 a).2.1 ≠ (TX3 b).2.1 := by decide +kernel
theorem tyX3_ok : ∀ k, k < 12 → parseFieldDescriptor (TX3 k).2.2.1 = some (tyX3 k) := by decide +kernel
abbrev cX3_init : ByteArray := prog_1_method_1_code
def yX3_init : MethodName := ⟨RX3, "<init>", "()V"⟩
abbrev cX3_tank : ByteArray := prog_1_method_2_code
def yX3_tank : MethodName := ⟨RX3, "tank", "(III)I"⟩
abbrev cX3_neighbours : ByteArray := prog_1_method_3_code
def yX3_neighbours : MethodName := ⟨RX3, "neighbours", "(IIZ)I"⟩
abbrev cX3_latest : ByteArray := prog_1_method_4_code
def yX3_latest : MethodName := ⟨RX3, "latest", "(III)I"⟩
abbrev cX3_cargo : ByteArray := prog_1_method_5_code
def yX3_cargo : MethodName := ⟨RX3, "cargo", "(IIIIII)I"⟩
abbrev cX3_uncargo : ByteArray := prog_1_method_6_code
def yX3_uncargo : MethodName := ⟨RX3, "uncargo", "()I"⟩
abbrev cX3_amount : ByteArray := prog_1_method_7_code
def yX3_amount : MethodName := ⟨RX3, "amount", "(II)I"⟩
abbrev cX3_washes : ByteArray := prog_1_method_8_code
def yX3_washes : MethodName := ⟨RX3, "washes", "(III)I"⟩
abbrev cX3_bound : ByteArray := prog_1_method_9_code
def yX3_bound : MethodName := ⟨RX3, "bound", "(I)I"⟩
abbrev cX3_ofTank : ByteArray := prog_1_method_10_code
def yX3_ofTank : MethodName := ⟨RX3, "ofTank", "(II)I"⟩
abbrev cX3_ofCargo : ByteArray := prog_1_method_11_code
def yX3_ofCargo : MethodName := ⟨RX3, "ofCargo", "(II)I"⟩
abbrev cX3_needs : ByteArray := prog_1_method_12_code
def yX3_needs : MethodName := ⟨RX3, "needs", "(II)I"⟩
abbrev cX3_why : ByteArray := prog_1_method_13_code
def yX3_why : MethodName := ⟨RX3, "why", "(II)I"⟩
abbrev cX3_plan : ByteArray := prog_1_method_14_code
def yX3_plan : MethodName := ⟨RX3, "plan", "(II)I"⟩
abbrev cX3_broken : ByteArray := prog_1_method_15_code
def yX3_broken : MethodName := ⟨RX3, "broken", "(I)I"⟩
abbrev cX3_ofPlan : ByteArray := prog_1_method_16_code
def yX3_ofPlan : MethodName := ⟨RX3, "ofPlan", "(I)I"⟩
abbrev cX3_best : ByteArray := prog_1_method_17_code
def yX3_best : MethodName := ⟨RX3, "best", "(II)I"⟩
abbrev cX3_taken : ByteArray := prog_1_method_18_code
def yX3_taken : MethodName := ⟨RX3, "taken", "()I"⟩
abbrev cX3_load : ByteArray := prog_1_method_19_code
def yX3_load : MethodName := ⟨RX3, "load", "()I"⟩
abbrev cX3_unload : ByteArray := prog_1_method_20_code
def yX3_unload : MethodName := ⟨RX3, "unload", "(I)I"⟩
abbrev cX3_pour : ByteArray := prog_1_method_21_code
def yX3_pour : MethodName := ⟨RX3, "pour", "(III)I"⟩
abbrev cX3_many : ByteArray := prog_1_method_22_code
def yX3_many : MethodName := ⟨RX3, "many", "(I)I"⟩
abbrev cX3_within : ByteArray := prog_1_method_23_code
def yX3_within : MethodName := ⟨RX3, "within", "(III)Z"⟩
abbrev cX3_isLiquid : ByteArray := prog_1_method_24_code
def yX3_isLiquid : MethodName := ⟨RX3, "isLiquid", "(I)Z"⟩
abbrev cX3_isLiquidSet : ByteArray := prog_1_method_25_code
def yX3_isLiquidSet : MethodName := ⟨RX3, "isLiquidSet", "(I)Z"⟩
abbrev cX3_isAmount : ByteArray := prog_1_method_26_code
def yX3_isAmount : MethodName := ⟨RX3, "isAmount", "(I)Z"⟩
abbrev cX3_isTank : ByteArray := prog_1_method_27_code
def yX3_isTank : MethodName := ⟨RX3, "isTank", "(I)Z"⟩
abbrev cX3_areTwoTanks : ByteArray := prog_1_method_28_code
def yX3_areTwoTanks : MethodName := ⟨RX3, "areTwoTanks", "(II)Z"⟩
abbrev cX3_isCargo : ByteArray := prog_1_method_29_code
def yX3_isCargo : MethodName := ⟨RX3, "isCargo", "(I)Z"⟩
abbrev cX3_isCargoSet : ByteArray := prog_1_method_30_code
def yX3_isCargoSet : MethodName := ⟨RX3, "isCargoSet", "(I)Z"⟩
abbrev cX3_has : ByteArray := prog_1_method_31_code
def yX3_has : MethodName := ⟨RX3, "has", "(II)Z"⟩
abbrev cX3_faults : ByteArray := prog_1_method_32_code
def yX3_faults : MethodName := ⟨RX3, "faults", "(LCargoTanks$Tank;LCargoTanks$Cargo;)I"⟩
abbrev cX3_washesNeeded : ByteArray := prog_1_method_33_code
def yX3_washesNeeded : MethodName := ⟨RX3, "washesNeeded", "(LCargoTanks$Tank;LCargoTanks$Cargo;)I"⟩
abbrev cX3_clash : ByteArray := prog_1_method_34_code
def yX3_clash : MethodName := ⟨RX3, "clash", "(LCargoTanks$Cargo;LCargoTanks$Cargo;)Z"⟩
abbrev cX3_tanksThatSuit : ByteArray := prog_1_method_35_code
def yX3_tanksThatSuit : MethodName := ⟨RX3, "tanksThatSuit", "(LCargoTanks$Cargo;)I"⟩
abbrev cX3_cargoesThatClash : ByteArray := prog_1_method_36_code
def yX3_cargoesThatClash : MethodName := ⟨RX3, "cargoesThatClash", "(LCargoTanks$Cargo;)I"⟩
abbrev cX3_tanksThatHold : ByteArray := prog_1_method_37_code
def yX3_tanksThatHold : MethodName := ⟨RX3, "tanksThatHold", "(I)I"⟩
abbrev cX3_tanksInUse : ByteArray := prog_1_method_38_code
def yX3_tanksInUse : MethodName := ⟨RX3, "tanksInUse", "()I"⟩
abbrev cX3_heldList : ByteArray := prog_1_method_39_code
def yX3_heldList : MethodName := ⟨RX3, "heldList", "()I"⟩
abbrev cX3_mayComeInto : ByteArray := prog_1_method_40_code
def yX3_mayComeInto : MethodName := ⟨RX3, "mayComeInto", "(LCargoTanks$Tank;LCargoTanks$Cargo;)Z"⟩
abbrev cX3_toldGoesBeyond : ByteArray := prog_1_method_41_code
def yX3_toldGoesBeyond : MethodName := ⟨RX3, "toldGoesBeyond", "(I)Z"⟩
abbrev cX3_toldDoesNotSuit : ByteArray := prog_1_method_42_code
def yX3_toldDoesNotSuit : MethodName := ⟨RX3, "toldDoesNotSuit", "()Z"⟩
abbrev cX3_toldClashes : ByteArray := prog_1_method_43_code
def yX3_toldClashes : MethodName := ⟨RX3, "toldClashes", "()Z"⟩
abbrev cX3_stowTold : ByteArray := prog_1_method_44_code
def yX3_stowTold : MethodName := ⟨RX3, "stowTold", "()V"⟩
abbrev cX3_toldLeavesSomeOf : ByteArray := prog_1_method_45_code
def yX3_toldLeavesSomeOf : MethodName := ⟨RX3, "toldLeavesSomeOf", "(I)Z"⟩
abbrev cX3_toldLeavesTankEmpty : ByteArray := prog_1_method_46_code
def yX3_toldLeavesTankEmpty : MethodName := ⟨RX3, "toldLeavesTankEmpty", "()Z"⟩
abbrev cX3_toldList : ByteArray := prog_1_method_47_code
def yX3_toldList : MethodName := ⟨RX3, "toldList", "()I"⟩
abbrev cX3_toldCost : ByteArray := prog_1_method_48_code
def yX3_toldCost : MethodName := ⟨RX3, "toldCost", "()I"⟩
abbrev cX3_toldTanks : ByteArray := prog_1_method_49_code
def yX3_toldTanks : MethodName := ⟨RX3, "toldTanks", "()I"⟩
abbrev cX3_takenSet : ByteArray := prog_1_method_50_code
def yX3_takenSet : MethodName := ⟨RX3, "takenSet", "()I"⟩
abbrev cX3_amountsOf : ByteArray := prog_1_method_51_code
def yX3_amountsOf : MethodName := ⟨RX3, "amountsOf", "(I)I"⟩
abbrev cX3_searchIfStale : ByteArray := prog_1_method_52_code
def yX3_searchIfStale : MethodName := ⟨RX3, "searchIfStale", "()V"⟩
abbrev cX3_noteCargoes : ByteArray := prog_1_method_53_code
def yX3_noteCargoes : MethodName := ⟨RX3, "noteCargoes", "()V"⟩
abbrev cX3_noteTanks : ByteArray := prog_1_method_54_code
def yX3_noteTanks : MethodName := ⟨RX3, "noteTanks", "()V"⟩
abbrev cX3_tryTank : ByteArray := prog_1_method_55_code
def yX3_tryTank : MethodName := ⟨RX3, "tryTank", "(LCargoTanks$Search;III)V"⟩
def RX4 : String := "CargoTanksModel"
def TX4 : u_T := fun k => match k with
  | 0 => ("CargoTanksModel", "tanks", "I", false)
  | 1 => ("CargoTanksModel", "volumeOf", "[I", true)
  | 2 => ("CargoTanksModel", "coatOf", "[I", true)
  | 3 => ("CargoTanksModel", "leverOf", "[I", true)
  | 4 => ("CargoTanksModel", "nextTo", "[I", true)
  | 5 => ("CargoTanksModel", "latestOf", "[I", true)
  | 6 => ("CargoTanksModel", "planOf", "[I", true)
  | 7 => ("CargoTanksModel", "heldOf", "[I", true)
  | 8 => ("CargoTanksModel", "muchOf", "[I", true)
  | 9 => ("CargoTanksModel", "cargoes", "I", false)
  | 10 => ("CargoTanksModel", "liquidOf", "[I", true)
  | 11 => ("CargoTanksModel", "amountOf", "[I", true)
  | 12 => ("CargoTanksModel", "bearsOf", "[I", true)
  | 13 => ("CargoTanksModel", "behindOf", "[I", true)
  | 14 => ("CargoTanksModel", "neverOf", "[I", true)
  | 15 => ("CargoTanksModel", "nearOf", "[I", true)
  | 16 => ("CargoTanksModel", "washesBy", "[I", true)
  | 17 => ("CargoTanksModel", "boundNow", "I", false)
  | 18 => ("CargoTanksModel", "tried", "[I", true)
  | 19 => ("CargoTanksModel", "filled", "[I", true)
  | 20 => ("CargoTanksModel", "right", "I", false)
  | 21 => ("CargoTanksModel", "bestCost", "I", false)
  | 22 => ("CargoTanksModel", "bestUsed", "I", false)
  | 23 => ("CargoTanksModel", "best", "[I", true)
  | 24 => ("CargoTanksModel", "choices", "[I", true)
  | _ => ("CargoTanksModel", "washed", "I", false)
def tyX4 : Nat → FieldType := fun k => match k with
  | 0 => .int
  | 1 => .array .int
  | 2 => .array .int
  | 3 => .array .int
  | 4 => .array .int
  | 5 => .array .int
  | 6 => .array .int
  | 7 => .array .int
  | 8 => .array .int
  | 9 => .int
  | 10 => .array .int
  | 11 => .array .int
  | 12 => .array .int
  | 13 => .array .int
  | 14 => .array .int
  | 15 => .array .int
  | 16 => .array .int
  | 17 => .int
  | 18 => .array .int
  | 19 => .array .int
  | 20 => .int
  | 21 => .int
  | 22 => .int
  | 23 => .array .int
  | 24 => .array .int
  | _ => .int
theorem nmX4 : ∀ a, a < 26 → ∀ b, b < 26 → a ≠ b → (TX4 a).2.1 ≠ (TX4 b).2.1 := by decide +kernel
theorem tyX4_ok : ∀ k, k < 26 → parseFieldDescriptor (TX4 k).2.2.1 = some (tyX4 k) := by decide +kernel
abbrev cX4_init : ByteArray := prog_6_method_1_code
def yX4_init : MethodName := ⟨RX4, "<init>", "()V"⟩
abbrev cX4_within : ByteArray := prog_6_method_2_code
def yX4_within : MethodName := ⟨RX4, "within", "(III)Z"⟩
abbrev cX4_isLiquid : ByteArray := prog_6_method_3_code
def yX4_isLiquid : MethodName := ⟨RX4, "isLiquid", "(I)Z"⟩
abbrev cX4_has : ByteArray := prog_6_method_4_code
def yX4_has : MethodName := ⟨RX4, "has", "(II)Z"⟩
abbrev cX4_isTank : ByteArray := prog_6_method_5_code
def yX4_isTank : MethodName := ⟨RX4, "isTank", "(I)Z"⟩
abbrev cX4_areTwo : ByteArray := prog_6_method_6_code
def yX4_areTwo : MethodName := ⟨RX4, "areTwo", "(II)Z"⟩
abbrev cX4_tank : ByteArray := prog_6_method_7_code
def yX4_tank : MethodName := ⟨RX4, "tank", "(III)I"⟩
abbrev cX4_neighbours : ByteArray := prog_6_method_8_code
def yX4_neighbours : MethodName := ⟨RX4, "neighbours", "(IIZ)I"⟩
abbrev cX4_latest : ByteArray := prog_6_method_9_code
def yX4_latest : MethodName := ⟨RX4, "latest", "(III)I"⟩
abbrev cX4_isCargo : ByteArray := prog_6_method_10_code
def yX4_isCargo : MethodName := ⟨RX4, "isCargo", "(I)Z"⟩
abbrev cX4_isSet : ByteArray := prog_6_method_11_code
def yX4_isSet : MethodName := ⟨RX4, "isSet", "(I)Z"⟩
abbrev cX4_cargo : ByteArray := prog_6_method_12_code
def yX4_cargo : MethodName := ⟨RX4, "cargo", "(IIIIII)I"⟩
abbrev cX4_holders : ByteArray := prog_6_method_13_code
def yX4_holders : MethodName := ⟨RX4, "holders", "(I)I"⟩
abbrev cX4_uncargo : ByteArray := prog_6_method_14_code
def yX4_uncargo : MethodName := ⟨RX4, "uncargo", "()I"⟩
abbrev cX4_amount : ByteArray := prog_6_method_15_code
def yX4_amount : MethodName := ⟨RX4, "amount", "(II)I"⟩
abbrev cX4_washes : ByteArray := prog_6_method_16_code
def yX4_washes : MethodName := ⟨RX4, "washes", "(III)I"⟩
abbrev cX4_bound : ByteArray := prog_6_method_17_code
def yX4_bound : MethodName := ⟨RX4, "bound", "(I)I"⟩
abbrev cX4_ofTank : ByteArray := prog_6_method_18_code
def yX4_ofTank : MethodName := ⟨RX4, "ofTank", "(II)I"⟩
abbrev cX4_doClash : ByteArray := prog_6_method_19_code
def yX4_doClash : MethodName := ⟨RX4, "doClash", "(II)Z"⟩
abbrev cX4_clashes : ByteArray := prog_6_method_20_code
def yX4_clashes : MethodName := ⟨RX4, "clashes", "(I)I"⟩
abbrev cX4_suited : ByteArray := prog_6_method_21_code
def yX4_suited : MethodName := ⟨RX4, "suited", "(I)I"⟩
abbrev cX4_ofCargo : ByteArray := prog_6_method_22_code
def yX4_ofCargo : MethodName := ⟨RX4, "ofCargo", "(II)I"⟩
abbrev cX4_washesFor : ByteArray := prog_6_method_23_code
def yX4_washesFor : MethodName := ⟨RX4, "washesFor", "(II)I"⟩
abbrev cX4_needs : ByteArray := prog_6_method_24_code
def yX4_needs : MethodName := ⟨RX4, "needs", "(II)I"⟩
abbrev cX4_whyNot : ByteArray := prog_6_method_25_code
def yX4_whyNot : MethodName := ⟨RX4, "whyNot", "(II)I"⟩
abbrev cX4_why : ByteArray := prog_6_method_26_code
def yX4_why : MethodName := ⟨RX4, "why", "(II)I"⟩
abbrev cX4_isSetOfCargoes : ByteArray := prog_6_method_27_code
def yX4_isSetOfCargoes : MethodName := ⟨RX4, "isSetOfCargoes", "(I)Z"⟩
abbrev cX4_plan : ByteArray := prog_6_method_28_code
def yX4_plan : MethodName := ⟨RX4, "plan", "(II)I"⟩
abbrev cX4_triesPlan : ByteArray := prog_6_method_29_code
def yX4_triesPlan : MethodName := ⟨RX4, "triesPlan", "()V"⟩
abbrev cX4_fills : ByteArray := prog_6_method_30_code
def yX4_fills : MethodName := ⟨RX4, "fills", "()V"⟩
abbrev cX4_listOf : ByteArray := prog_6_method_31_code
def yX4_listOf : MethodName := ⟨RX4, "listOf", "()I"⟩
abbrev cX4_hasOther : ByteArray := prog_6_method_32_code
def yX4_hasOther : MethodName := ⟨RX4, "hasOther", "(I)Z"⟩
abbrev cX4_hasUnfit : ByteArray := prog_6_method_33_code
def yX4_hasUnfit : MethodName := ⟨RX4, "hasUnfit", "()Z"⟩
abbrev cX4_hasClash : ByteArray := prog_6_method_34_code
def yX4_hasClash : MethodName := ⟨RX4, "hasClash", "()Z"⟩
abbrev cX4_hasTooMuch : ByteArray := prog_6_method_35_code
def yX4_hasTooMuch : MethodName := ⟨RX4, "hasTooMuch", "(I)Z"⟩
abbrev cX4_hasEmpty : ByteArray := prog_6_method_36_code
def yX4_hasEmpty : MethodName := ⟨RX4, "hasEmpty", "()Z"⟩
abbrev cX4_brokenBy : ByteArray := prog_6_method_37_code
def yX4_brokenBy : MethodName := ⟨RX4, "brokenBy", "(I)I"⟩
abbrev cX4_broken : ByteArray := prog_6_method_38_code
def yX4_broken : MethodName := ⟨RX4, "broken", "(I)I"⟩
abbrev cX4_costOf : ByteArray := prog_6_method_39_code
def yX4_costOf : MethodName := ⟨RX4, "costOf", "()I"⟩
abbrev cX4_usedOf : ByteArray := prog_6_method_40_code
def yX4_usedOf : MethodName := ⟨RX4, "usedOf", "()I"⟩
abbrev cX4_ofPlan : ByteArray := prog_6_method_41_code
def yX4_ofPlan : MethodName := ⟨RX4, "ofPlan", "(I)I"⟩
abbrev cX4_lays : ByteArray := prog_6_method_42_code
def yX4_lays : MethodName := ⟨RX4, "lays", "(II)V"⟩
abbrev cX4_findBest : ByteArray := prog_6_method_43_code
def yX4_findBest : MethodName := ⟨RX4, "findBest", "(I)V"⟩
abbrev cX4_keepsBest : ByteArray := prog_6_method_44_code
def yX4_keepsBest : MethodName := ⟨RX4, "keepsBest", "()V"⟩
abbrev cX4_triesBest : ByteArray := prog_6_method_45_code
def yX4_triesBest : MethodName := ⟨RX4, "triesBest", "()V"⟩
abbrev cX4_best : ByteArray := prog_6_method_46_code
def yX4_best : MethodName := ⟨RX4, "best", "(II)I"⟩
abbrev cX4_amountsOf : ByteArray := prog_6_method_47_code
def yX4_amountsOf : MethodName := ⟨RX4, "amountsOf", "(I)I"⟩
abbrev cX4_sizeOf : ByteArray := prog_6_method_48_code
def yX4_sizeOf : MethodName := ⟨RX4, "sizeOf", "(I)I"⟩
abbrev cX4_isBetter : ByteArray := prog_6_method_49_code
def yX4_isBetter : MethodName := ⟨RX4, "isBetter", "(II)Z"⟩
abbrev cX4_taken : ByteArray := prog_6_method_50_code
def yX4_taken : MethodName := ⟨RX4, "taken", "()I"⟩
abbrev cX4_load : ByteArray := prog_6_method_51_code
def yX4_load : MethodName := ⟨RX4, "load", "()I"⟩
abbrev cX4_empties : ByteArray := prog_6_method_52_code
def yX4_empties : MethodName := ⟨RX4, "empties", "(I)V"⟩
abbrev cX4_unload : ByteArray := prog_6_method_53_code
def yX4_unload : MethodName := ⟨RX4, "unload", "(I)I"⟩
abbrev cX4_mayTake : ByteArray := prog_6_method_54_code
def yX4_mayTake : MethodName := ⟨RX4, "mayTake", "(II)Z"⟩
abbrev cX4_pour : ByteArray := prog_6_method_55_code
def yX4_pour : MethodName := ⟨RX4, "pour", "(III)I"⟩
abbrev cX4_many : ByteArray := prog_6_method_56_code
def yX4_many : MethodName := ⟨RX4, "many", "(I)I"⟩
abbrev cX4_heldList : ByteArray := prog_6_method_57_code
def yX4_heldList : MethodName := ⟨RX4, "heldList", "()I"⟩
def RJ6 : String := "java/lang/Integer"
def TJ6 : u_T := fun k => match k with
  | _ => ("", "", "", false)
def tyJ6 : Nat → FieldType := fun k => match k with
  | _ => .int
theorem nmJ6 : ∀ a, a < 0 → ∀ b, b < 0 → a ≠ b → (TJ6 a).2.1 ≠ (TJ6 b).2.1 := by decide +kernel
theorem tyJ6_ok : ∀ k, k < 0 → parseFieldDescriptor (TJ6 k).2.2.1 = some (tyJ6 k) := by decide +kernel
abbrev cJ6_bitCount_0f7a4 : ByteArray := prog_7_method_49_code
def yJ6_bitCount_0f7a4 : MethodName := ⟨RJ6, "bitCount", "(I)I"⟩
def RJ9 : String := "java/lang/Math"
def TJ9 : u_T := fun k => match k with
  | _ => ("", "", "", false)
def tyJ9 : Nat → FieldType := fun k => match k with
  | _ => .int
theorem nmJ9 : ∀ a, a < 0 → ∀ b, b < 0 → a ≠ b → (TJ9 a).2.1 ≠ (TJ9 b).2.1 := by decide +kernel
theorem tyJ9_ok : ∀ k, k < 0 → parseFieldDescriptor (TJ9 k).2.2.1 = some (tyJ9 k) := by decide +kernel
abbrev cJ9_abs_0f7a4 : ByteArray := prog_8_method_59_code
def yJ9_abs_0f7a4 : MethodName := ⟨RJ9, "abs", "(I)I"⟩
abbrev cJ9_min_7cf53 : ByteArray := prog_8_method_69_code
def yJ9_min_7cf53 : MethodName := ⟨RJ9, "min", "(II)I"⟩
def RL : String := "CargoTanksLaw"
abbrev cL_law : ByteArray := code
def yL_law : MethodName := ⟨RL, "law", "([I)Z"⟩
end
section
theorem dX4_init_0 : decode cX4_init 0 = .ok (.aload_n 0, 1) := by decide +kernel
theorem dX4_init_1 : decode cX4_init 1 = .ok (.invokespecial 1, 3) := by decide +kernel
theorem dX4_init_4 : decode cX4_init 4 = .ok (.aload_n 0, 1) := by decide +kernel
theorem dX4_init_5 : decode cX4_init 5 = .ok (.bipush 6, 2) := by decide +kernel
theorem dX4_init_7 : decode cX4_init 7 = .ok (.newarray .int, 2) := by decide +kernel
theorem dX4_init_9 : decode cX4_init 9 = .ok (.putfield 7, 3) := by decide +kernel
theorem dX4_init_12 : decode cX4_init 12 = .ok (.aload_n 0, 1) := by decide +kernel
theorem dX4_init_13 : decode cX4_init 13 = .ok (.bipush 6, 2) := by decide +kernel
theorem dX4_init_15 : decode cX4_init 15 = .ok (.newarray .int, 2) := by decide +kernel
theorem dX4_init_17 : decode cX4_init 17 = .ok (.putfield 13, 3) := by decide +kernel
theorem dX4_init_20 : decode cX4_init 20 = .ok (.aload_n 0, 1) := by decide +kernel
theorem dX4_init_21 : decode cX4_init 21 = .ok (.bipush 6, 2) := by decide +kernel
theorem dX4_init_23 : decode cX4_init 23 = .ok (.newarray .int, 2) := by decide +kernel
theorem dX4_init_25 : decode cX4_init 25 = .ok (.putfield 16, 3) := by decide +kernel
theorem dX4_init_28 : decode cX4_init 28 = .ok (.aload_n 0, 1) := by decide +kernel
theorem dX4_init_29 : decode cX4_init 29 = .ok (.bipush 6, 2) := by decide +kernel
theorem dX4_init_31 : decode cX4_init 31 = .ok (.newarray .int, 2) := by decide +kernel
theorem dX4_init_33 : decode cX4_init 33 = .ok (.putfield 19, 3) := by decide +kernel
theorem dX4_init_36 : decode cX4_init 36 = .ok (.aload_n 0, 1) := by decide +kernel
theorem dX4_init_37 : decode cX4_init 37 = .ok (.bipush 18, 2) := by decide +kernel
theorem dX4_init_39 : decode cX4_init 39 = .ok (.newarray .int, 2) := by decide +kernel
theorem dX4_init_41 : decode cX4_init 41 = .ok (.putfield 22, 3) := by decide +kernel
theorem dX4_init_44 : decode cX4_init 44 = .ok (.aload_n 0, 1) := by decide +kernel
theorem dX4_init_45 : decode cX4_init 45 = .ok (.bipush 6, 2) := by decide +kernel
theorem dX4_init_47 : decode cX4_init 47 = .ok (.newarray .int, 2) := by decide +kernel
theorem dX4_init_49 : decode cX4_init 49 = .ok (.putfield 25, 3) := by decide +kernel
theorem dX4_init_52 : decode cX4_init 52 = .ok (.aload_n 0, 1) := by decide +kernel
theorem dX4_init_53 : decode cX4_init 53 = .ok (.bipush 6, 2) := by decide +kernel
theorem dX4_init_55 : decode cX4_init 55 = .ok (.newarray .int, 2) := by decide +kernel
theorem dX4_init_57 : decode cX4_init 57 = .ok (.putfield 28, 3) := by decide +kernel
theorem dX4_init_60 : decode cX4_init 60 = .ok (.aload_n 0, 1) := by decide +kernel
theorem dX4_init_61 : decode cX4_init 61 = .ok (.bipush 6, 2) := by decide +kernel
theorem dX4_init_63 : decode cX4_init 63 = .ok (.newarray .int, 2) := by decide +kernel
theorem dX4_init_65 : decode cX4_init 65 = .ok (.putfield 31, 3) := by decide +kernel
theorem dX4_init_68 : decode cX4_init 68 = .ok (.aload_n 0, 1) := by decide +kernel
theorem dX4_init_69 : decode cX4_init 69 = .ok (.iconst 4, 1) := by decide +kernel
theorem dX4_init_70 : decode cX4_init 70 = .ok (.newarray .int, 2) := by decide +kernel
theorem dX4_init_72 : decode cX4_init 72 = .ok (.putfield 34, 3) := by decide +kernel
theorem dX4_init_75 : decode cX4_init 75 = .ok (.aload_n 0, 1) := by decide +kernel
theorem dX4_init_76 : decode cX4_init 76 = .ok (.iconst 4, 1) := by decide +kernel
theorem dX4_init_77 : decode cX4_init 77 = .ok (.newarray .int, 2) := by decide +kernel
theorem dX4_init_79 : decode cX4_init 79 = .ok (.putfield 37, 3) := by decide +kernel
theorem dX4_init_82 : decode cX4_init 82 = .ok (.aload_n 0, 1) := by decide +kernel
theorem dX4_init_83 : decode cX4_init 83 = .ok (.iconst 4, 1) := by decide +kernel
theorem dX4_init_84 : decode cX4_init 84 = .ok (.newarray .int, 2) := by decide +kernel
theorem dX4_init_86 : decode cX4_init 86 = .ok (.putfield 40, 3) := by decide +kernel
theorem dX4_init_89 : decode cX4_init 89 = .ok (.aload_n 0, 1) := by decide +kernel
theorem dX4_init_90 : decode cX4_init 90 = .ok (.iconst 4, 1) := by decide +kernel
theorem dX4_init_91 : decode cX4_init 91 = .ok (.newarray .int, 2) := by decide +kernel
theorem dX4_init_93 : decode cX4_init 93 = .ok (.putfield 43, 3) := by decide +kernel
theorem dX4_init_96 : decode cX4_init 96 = .ok (.aload_n 0, 1) := by decide +kernel
theorem dX4_init_97 : decode cX4_init 97 = .ok (.iconst 4, 1) := by decide +kernel
theorem dX4_init_98 : decode cX4_init 98 = .ok (.newarray .int, 2) := by decide +kernel
theorem dX4_init_100 : decode cX4_init 100 = .ok (.putfield 46, 3) := by decide +kernel
theorem dX4_init_103 : decode cX4_init 103 = .ok (.aload_n 0, 1) := by decide +kernel
theorem dX4_init_104 : decode cX4_init 104 = .ok (.iconst 4, 1) := by decide +kernel
theorem dX4_init_105 : decode cX4_init 105 = .ok (.newarray .int, 2) := by decide +kernel
theorem dX4_init_107 : decode cX4_init 107 = .ok (.putfield 49, 3) := by decide +kernel
theorem dX4_init_110 : decode cX4_init 110 = .ok (.aload_n 0, 1) := by decide +kernel
theorem dX4_init_111 : decode cX4_init 111 = .ok (.bipush 64, 2) := by decide +kernel
theorem dX4_init_113 : decode cX4_init 113 = .ok (.newarray .int, 2) := by decide +kernel
theorem dX4_init_115 : decode cX4_init 115 = .ok (.putfield 52, 3) := by decide +kernel
theorem dX4_init_118 : decode cX4_init 118 = .ok (.aload_n 0, 1) := by decide +kernel
theorem dX4_init_119 : decode cX4_init 119 = .ok (.sipush 9999, 3) := by decide +kernel
theorem dX4_init_122 : decode cX4_init 122 = .ok (.putfield 55, 3) := by decide +kernel
theorem dX4_init_125 : decode cX4_init 125 = .ok (.aload_n 0, 1) := by decide +kernel
theorem dX4_init_126 : decode cX4_init 126 = .ok (.bipush 6, 2) := by decide +kernel
theorem dX4_init_128 : decode cX4_init 128 = .ok (.newarray .int, 2) := by decide +kernel
theorem dX4_init_130 : decode cX4_init 130 = .ok (.putfield 59, 3) := by decide +kernel
theorem dX4_init_133 : decode cX4_init 133 = .ok (.aload_n 0, 1) := by decide +kernel
theorem dX4_init_134 : decode cX4_init 134 = .ok (.bipush 6, 2) := by decide +kernel
theorem dX4_init_136 : decode cX4_init 136 = .ok (.newarray .int, 2) := by decide +kernel
theorem dX4_init_138 : decode cX4_init 138 = .ok (.putfield 62, 3) := by decide +kernel
theorem dX4_init_141 : decode cX4_init 141 = .ok (.aload_n 0, 1) := by decide +kernel
theorem dX4_init_142 : decode cX4_init 142 = .ok (.bipush 6, 2) := by decide +kernel
theorem dX4_init_144 : decode cX4_init 144 = .ok (.newarray .int, 2) := by decide +kernel
theorem dX4_init_146 : decode cX4_init 146 = .ok (.putfield 65, 3) := by decide +kernel
theorem dX4_init_149 : decode cX4_init 149 = .ok (.aload_n 0, 1) := by decide +kernel
theorem dX4_init_150 : decode cX4_init 150 = .ok (.iconst 5, 1) := by decide +kernel
theorem dX4_init_151 : decode cX4_init 151 = .ok (.newarray .int, 2) := by decide +kernel
theorem dX4_init_153 : decode cX4_init 153 = .ok (.putfield 68, 3) := by decide +kernel
theorem dX4_init_156 : decode cX4_init 156 = .ok (.iconst 0, 1) := by decide +kernel
theorem dX4_init_157 : decode cX4_init 157 = .ok (.istore_n 1, 1) := by decide +kernel
theorem dX4_init_158 : decode cX4_init 158 = .ok (.iload_n 1, 1) := by decide +kernel
theorem dX4_init_159 : decode cX4_init 159 = .ok (.bipush 18, 2) := by decide +kernel
theorem dX4_init_161 : decode cX4_init 161 = .ok (.if_icmp .ge 17, 3) := by decide +kernel
theorem dX4_init_164 : decode cX4_init 164 = .ok (.aload_n 0, 1) := by decide +kernel
theorem dX4_init_165 : decode cX4_init 165 = .ok (.getfield 22, 3) := by decide +kernel
theorem dX4_init_168 : decode cX4_init 168 = .ok (.iload_n 1, 1) := by decide +kernel
theorem dX4_init_169 : decode cX4_init 169 = .ok (.bipush (-9), 2) := by decide +kernel
theorem dX4_init_171 : decode cX4_init 171 = .ok (.iastore, 1) := by decide +kernel
theorem dX4_init_172 : decode cX4_init 172 = .ok (.iinc 1 1, 3) := by decide +kernel
theorem dX4_init_175 : decode cX4_init 175 = .ok (.goto (-17), 3) := by decide +kernel
theorem dX4_init_178 : decode cX4_init 178 = .ok (.iconst 0, 1) := by decide +kernel
theorem dX4_init_179 : decode cX4_init 179 = .ok (.istore_n 1, 1) := by decide +kernel
theorem dX4_init_180 : decode cX4_init 180 = .ok (.iload_n 1, 1) := by decide +kernel
theorem dX4_init_181 : decode cX4_init 181 = .ok (.bipush 6, 2) := by decide +kernel
theorem dX4_init_183 : decode cX4_init 183 = .ok (.if_icmp .ge 25, 3) := by decide +kernel
theorem dX4_init_186 : decode cX4_init 186 = .ok (.aload_n 0, 1) := by decide +kernel
theorem dX4_init_187 : decode cX4_init 187 = .ok (.getfield 25, 3) := by decide +kernel
theorem dX4_init_190 : decode cX4_init 190 = .ok (.iload_n 1, 1) := by decide +kernel
theorem dX4_init_191 : decode cX4_init 191 = .ok (.bipush (-9), 2) := by decide +kernel
theorem dX4_init_193 : decode cX4_init 193 = .ok (.iastore, 1) := by decide +kernel
theorem dX4_init_194 : decode cX4_init 194 = .ok (.aload_n 0, 1) := by decide +kernel
theorem dX4_init_195 : decode cX4_init 195 = .ok (.getfield 28, 3) := by decide +kernel
theorem dX4_init_198 : decode cX4_init 198 = .ok (.iload_n 1, 1) := by decide +kernel
theorem dX4_init_199 : decode cX4_init 199 = .ok (.bipush (-9), 2) := by decide +kernel
theorem dX4_init_201 : decode cX4_init 201 = .ok (.iastore, 1) := by decide +kernel
theorem dX4_init_202 : decode cX4_init 202 = .ok (.iinc 1 1, 3) := by decide +kernel
theorem dX4_init_205 : decode cX4_init 205 = .ok (.goto (-25), 3) := by decide +kernel
theorem dX4_init_208 : decode cX4_init 208 = .ok (.return_, 1) := by decide +kernel
theorem dX4_within_0 : decode cX4_within 0 = .ok (.iload_n 0, 1) := by decide +kernel
theorem dX4_within_1 : decode cX4_within 1 = .ok (.iload_n 1, 1) := by decide +kernel
theorem dX4_within_2 : decode cX4_within 2 = .ok (.if_icmp .lt 12, 3) := by decide +kernel
theorem dX4_within_5 : decode cX4_within 5 = .ok (.iload_n 0, 1) := by decide +kernel
theorem dX4_within_6 : decode cX4_within 6 = .ok (.iload_n 2, 1) := by decide +kernel
theorem dX4_within_7 : decode cX4_within 7 = .ok (.if_icmp .gt 7, 3) := by decide +kernel
theorem dX4_within_10 : decode cX4_within 10 = .ok (.iconst 1, 1) := by decide +kernel
theorem dX4_within_11 : decode cX4_within 11 = .ok (.goto 4, 3) := by decide +kernel
theorem dX4_within_14 : decode cX4_within 14 = .ok (.iconst 0, 1) := by decide +kernel
theorem dX4_within_15 : decode cX4_within 15 = .ok (.ireturn, 1) := by decide +kernel
theorem dX4_isLiquid_0 : decode cX4_isLiquid 0 = .ok (.iload_n 0, 1) := by decide +kernel
theorem dX4_isLiquid_1 : decode cX4_isLiquid 1 = .ok (.iconst 0, 1) := by decide +kernel
theorem dX4_isLiquid_2 : decode cX4_isLiquid 2 = .ok (.bipush 7, 2) := by decide +kernel
theorem dX4_isLiquid_4 : decode cX4_isLiquid 4 = .ok (.invokestatic 71, 3) := by decide +kernel
theorem dX4_isLiquid_7 : decode cX4_isLiquid 7 = .ok (.ireturn, 1) := by decide +kernel
theorem dX4_has_0 : decode cX4_has 0 = .ok (.iload_n 0, 1) := by decide +kernel
theorem dX4_has_1 : decode cX4_has 1 = .ok (.iload_n 1, 1) := by decide +kernel
theorem dX4_has_2 : decode cX4_has 2 = .ok (.ishr, 1) := by decide +kernel
theorem dX4_has_3 : decode cX4_has 3 = .ok (.iconst 1, 1) := by decide +kernel
theorem dX4_has_4 : decode cX4_has 4 = .ok (.iand, 1) := by decide +kernel
theorem dX4_has_5 : decode cX4_has 5 = .ok (.iconst 1, 1) := by decide +kernel
theorem dX4_has_6 : decode cX4_has 6 = .ok (.if_icmp .ne 7, 3) := by decide +kernel
theorem dX4_has_9 : decode cX4_has 9 = .ok (.iconst 1, 1) := by decide +kernel
theorem dX4_has_10 : decode cX4_has 10 = .ok (.goto 4, 3) := by decide +kernel
theorem dX4_has_13 : decode cX4_has 13 = .ok (.iconst 0, 1) := by decide +kernel
theorem dX4_has_14 : decode cX4_has 14 = .ok (.ireturn, 1) := by decide +kernel
theorem dX4_isTank_0 : decode cX4_isTank 0 = .ok (.iload_n 1, 1) := by decide +kernel
theorem dX4_isTank_1 : decode cX4_isTank 1 = .ok (.iconst 0, 1) := by decide +kernel
theorem dX4_isTank_2 : decode cX4_isTank 2 = .ok (.aload_n 0, 1) := by decide +kernel
theorem dX4_isTank_3 : decode cX4_isTank 3 = .ok (.getfield 75, 3) := by decide +kernel
theorem dX4_isTank_6 : decode cX4_isTank 6 = .ok (.iconst 1, 1) := by decide +kernel
theorem dX4_isTank_7 : decode cX4_isTank 7 = .ok (.isub, 1) := by decide +kernel
theorem dX4_isTank_8 : decode cX4_isTank 8 = .ok (.invokestatic 71, 3) := by decide +kernel
theorem dX4_isTank_11 : decode cX4_isTank 11 = .ok (.ireturn, 1) := by decide +kernel
theorem dX4_areTwo_0 : decode cX4_areTwo 0 = .ok (.aload_n 0, 1) := by decide +kernel
theorem dX4_areTwo_1 : decode cX4_areTwo 1 = .ok (.iload_n 1, 1) := by decide +kernel
theorem dX4_areTwo_2 : decode cX4_areTwo 2 = .ok (.invokevirtual 78, 3) := by decide +kernel
theorem dX4_areTwo_5 : decode cX4_areTwo 5 = .ok (.ifCond .eq 20, 3) := by decide +kernel
theorem dX4_areTwo_8 : decode cX4_areTwo 8 = .ok (.aload_n 0, 1) := by decide +kernel
theorem dX4_areTwo_9 : decode cX4_areTwo 9 = .ok (.iload_n 2, 1) := by decide +kernel
theorem dX4_areTwo_10 : decode cX4_areTwo 10 = .ok (.invokevirtual 78, 3) := by decide +kernel
theorem dX4_areTwo_13 : decode cX4_areTwo 13 = .ok (.ifCond .eq 12, 3) := by decide +kernel
theorem dX4_areTwo_16 : decode cX4_areTwo 16 = .ok (.iload_n 1, 1) := by decide +kernel
theorem dX4_areTwo_17 : decode cX4_areTwo 17 = .ok (.iload_n 2, 1) := by decide +kernel
theorem dX4_areTwo_18 : decode cX4_areTwo 18 = .ok (.if_icmp .eq 7, 3) := by decide +kernel
theorem dX4_areTwo_21 : decode cX4_areTwo 21 = .ok (.iconst 1, 1) := by decide +kernel
theorem dX4_areTwo_22 : decode cX4_areTwo 22 = .ok (.goto 4, 3) := by decide +kernel
theorem dX4_areTwo_25 : decode cX4_areTwo 25 = .ok (.iconst 0, 1) := by decide +kernel
theorem dX4_areTwo_26 : decode cX4_areTwo 26 = .ok (.ireturn, 1) := by decide +kernel
theorem dX4_tank_0 : decode cX4_tank 0 = .ok (.iload_n 1, 1) := by decide +kernel
theorem dX4_tank_1 : decode cX4_tank 1 = .ok (.iconst 1, 1) := by decide +kernel
theorem dX4_tank_2 : decode cX4_tank 2 = .ok (.bipush 99, 2) := by decide +kernel
theorem dX4_tank_4 : decode cX4_tank 4 = .ok (.invokestatic 71, 3) := by decide +kernel
theorem dX4_tank_7 : decode cX4_tank 7 = .ok (.ifCond .eq 23, 3) := by decide +kernel
theorem dX4_tank_10 : decode cX4_tank 10 = .ok (.iload_n 2, 1) := by decide +kernel
theorem dX4_tank_11 : decode cX4_tank 11 = .ok (.iconst 0, 1) := by decide +kernel
theorem dX4_tank_12 : decode cX4_tank 12 = .ok (.iconst 3, 1) := by decide +kernel
theorem dX4_tank_13 : decode cX4_tank 13 = .ok (.invokestatic 71, 3) := by decide +kernel
theorem dX4_tank_16 : decode cX4_tank 16 = .ok (.ifCond .eq 14, 3) := by decide +kernel
theorem dX4_tank_19 : decode cX4_tank 19 = .ok (.iload_n 3, 1) := by decide +kernel
theorem dX4_tank_20 : decode cX4_tank 20 = .ok (.bipush (-9), 2) := by decide +kernel
theorem dX4_tank_22 : decode cX4_tank 22 = .ok (.bipush 9, 2) := by decide +kernel
theorem dX4_tank_24 : decode cX4_tank 24 = .ok (.invokestatic 71, 3) := by decide +kernel
theorem dX4_tank_27 : decode cX4_tank 27 = .ok (.ifCond .ne 6, 3) := by decide +kernel
theorem dX4_tank_30 : decode cX4_tank 30 = .ok (.bipush (-2), 2) := by decide +kernel
theorem dX4_tank_32 : decode cX4_tank 32 = .ok (.ireturn, 1) := by decide +kernel
theorem dX4_tank_33 : decode cX4_tank 33 = .ok (.aload_n 0, 1) := by decide +kernel
theorem dX4_tank_34 : decode cX4_tank 34 = .ok (.getfield 75, 3) := by decide +kernel
theorem dX4_tank_37 : decode cX4_tank 37 = .ok (.bipush 6, 2) := by decide +kernel
theorem dX4_tank_39 : decode cX4_tank 39 = .ok (.if_icmp .ne 6, 3) := by decide +kernel
theorem dX4_tank_42 : decode cX4_tank 42 = .ok (.bipush (-4), 2) := by decide +kernel
theorem dX4_tank_44 : decode cX4_tank 44 = .ok (.ireturn, 1) := by decide +kernel
theorem dX4_tank_45 : decode cX4_tank 45 = .ok (.aload_n 0, 1) := by decide +kernel
theorem dX4_tank_46 : decode cX4_tank 46 = .ok (.getfield 7, 3) := by decide +kernel
theorem dX4_tank_49 : decode cX4_tank 49 = .ok (.aload_n 0, 1) := by decide +kernel
theorem dX4_tank_50 : decode cX4_tank 50 = .ok (.getfield 75, 3) := by decide +kernel
theorem dX4_tank_53 : decode cX4_tank 53 = .ok (.iload_n 1, 1) := by decide +kernel
theorem dX4_tank_54 : decode cX4_tank 54 = .ok (.iastore, 1) := by decide +kernel
theorem dX4_tank_55 : decode cX4_tank 55 = .ok (.aload_n 0, 1) := by decide +kernel
theorem dX4_tank_56 : decode cX4_tank 56 = .ok (.getfield 13, 3) := by decide +kernel
theorem dX4_tank_59 : decode cX4_tank 59 = .ok (.aload_n 0, 1) := by decide +kernel
theorem dX4_tank_60 : decode cX4_tank 60 = .ok (.getfield 75, 3) := by decide +kernel
theorem dX4_tank_63 : decode cX4_tank 63 = .ok (.iload_n 2, 1) := by decide +kernel
theorem dX4_tank_64 : decode cX4_tank 64 = .ok (.iastore, 1) := by decide +kernel
theorem dX4_tank_65 : decode cX4_tank 65 = .ok (.aload_n 0, 1) := by decide +kernel
theorem dX4_tank_66 : decode cX4_tank 66 = .ok (.getfield 16, 3) := by decide +kernel
theorem dX4_tank_69 : decode cX4_tank 69 = .ok (.aload_n 0, 1) := by decide +kernel
theorem dX4_tank_70 : decode cX4_tank 70 = .ok (.getfield 75, 3) := by decide +kernel
theorem dX4_tank_73 : decode cX4_tank 73 = .ok (.iload_n 3, 1) := by decide +kernel
theorem dX4_tank_74 : decode cX4_tank 74 = .ok (.iastore, 1) := by decide +kernel
theorem dX4_tank_75 : decode cX4_tank 75 = .ok (.aload_n 0, 1) := by decide +kernel
theorem dX4_tank_76 : decode cX4_tank 76 = .ok (.dup, 1) := by decide +kernel
theorem dX4_tank_77 : decode cX4_tank 77 = .ok (.getfield 75, 3) := by decide +kernel
theorem dX4_tank_80 : decode cX4_tank 80 = .ok (.iconst 1, 1) := by decide +kernel
theorem dX4_tank_81 : decode cX4_tank 81 = .ok (.iadd, 1) := by decide +kernel
theorem dX4_tank_82 : decode cX4_tank 82 = .ok (.putfield 75, 3) := by decide +kernel
theorem dX4_tank_85 : decode cX4_tank 85 = .ok (.aload_n 0, 1) := by decide +kernel
theorem dX4_tank_86 : decode cX4_tank 86 = .ok (.getfield 75, 3) := by decide +kernel
theorem dX4_tank_89 : decode cX4_tank 89 = .ok (.iconst 1, 1) := by decide +kernel
theorem dX4_tank_90 : decode cX4_tank 90 = .ok (.isub, 1) := by decide +kernel
theorem dX4_tank_91 : decode cX4_tank 91 = .ok (.ireturn, 1) := by decide +kernel
theorem dX4_neighbours_0 : decode cX4_neighbours 0 = .ok (.aload_n 0, 1) := by decide +kernel
theorem dX4_neighbours_1 : decode cX4_neighbours 1 = .ok (.iload_n 1, 1) := by decide +kernel
theorem dX4_neighbours_2 : decode cX4_neighbours 2 = .ok (.iload_n 2, 1) := by decide +kernel
theorem dX4_neighbours_3 : decode cX4_neighbours 3 = .ok (.invokevirtual 82, 3) := by decide +kernel
theorem dX4_neighbours_6 : decode cX4_neighbours 6 = .ok (.ifCond .ne 5, 3) := by decide +kernel
theorem dX4_neighbours_9 : decode cX4_neighbours 9 = .ok (.iconst (-1), 1) := by decide +kernel
theorem dX4_neighbours_10 : decode cX4_neighbours 10 = .ok (.ireturn, 1) := by decide +kernel
theorem dX4_neighbours_11 : decode cX4_neighbours 11 = .ok (.aload_n 0, 1) := by decide +kernel
theorem dX4_neighbours_12 : decode cX4_neighbours 12 = .ok (.getfield 19, 3) := by decide +kernel
theorem dX4_neighbours_15 : decode cX4_neighbours 15 = .ok (.iload_n 1, 1) := by decide +kernel
theorem dX4_neighbours_16 : decode cX4_neighbours 16 = .ok (.iaload, 1) := by decide +kernel
theorem dX4_neighbours_17 : decode cX4_neighbours 17 = .ok (.iload_n 2, 1) := by decide +kernel
theorem dX4_neighbours_18 : decode cX4_neighbours 18 = .ok (.invokestatic 86, 3) := by decide +kernel
theorem dX4_neighbours_21 : decode cX4_neighbours 21 = .ok (.iload_n 3, 1) := by decide +kernel
theorem dX4_neighbours_22 : decode cX4_neighbours 22 = .ok (.if_icmp .ne 5, 3) := by decide +kernel
theorem dX4_neighbours_25 : decode cX4_neighbours 25 = .ok (.iconst 0, 1) := by decide +kernel
theorem dX4_neighbours_26 : decode cX4_neighbours 26 = .ok (.ireturn, 1) := by decide +kernel
theorem dX4_neighbours_27 : decode cX4_neighbours 27 = .ok (.aload_n 0, 1) := by decide +kernel
theorem dX4_neighbours_28 : decode cX4_neighbours 28 = .ok (.getfield 19, 3) := by decide +kernel
theorem dX4_neighbours_31 : decode cX4_neighbours 31 = .ok (.iload_n 1, 1) := by decide +kernel
theorem dX4_neighbours_32 : decode cX4_neighbours 32 = .ok (.dup2, 1) := by decide +kernel
theorem dX4_neighbours_33 : decode cX4_neighbours 33 = .ok (.iaload, 1) := by decide +kernel
theorem dX4_neighbours_34 : decode cX4_neighbours 34 = .ok (.iconst 1, 1) := by decide +kernel
theorem dX4_neighbours_35 : decode cX4_neighbours 35 = .ok (.iload_n 2, 1) := by decide +kernel
theorem dX4_neighbours_36 : decode cX4_neighbours 36 = .ok (.ishl, 1) := by decide +kernel
theorem dX4_neighbours_37 : decode cX4_neighbours 37 = .ok (.ixor, 1) := by decide +kernel
theorem dX4_neighbours_38 : decode cX4_neighbours 38 = .ok (.iastore, 1) := by decide +kernel
theorem dX4_neighbours_39 : decode cX4_neighbours 39 = .ok (.aload_n 0, 1) := by decide +kernel
theorem dX4_neighbours_40 : decode cX4_neighbours 40 = .ok (.getfield 19, 3) := by decide +kernel
theorem dX4_neighbours_43 : decode cX4_neighbours 43 = .ok (.iload_n 2, 1) := by decide +kernel
theorem dX4_neighbours_44 : decode cX4_neighbours 44 = .ok (.dup2, 1) := by decide +kernel
theorem dX4_neighbours_45 : decode cX4_neighbours 45 = .ok (.iaload, 1) := by decide +kernel
theorem dX4_neighbours_46 : decode cX4_neighbours 46 = .ok (.iconst 1, 1) := by decide +kernel
theorem dX4_neighbours_47 : decode cX4_neighbours 47 = .ok (.iload_n 1, 1) := by decide +kernel
theorem dX4_neighbours_48 : decode cX4_neighbours 48 = .ok (.ishl, 1) := by decide +kernel
theorem dX4_neighbours_49 : decode cX4_neighbours 49 = .ok (.ixor, 1) := by decide +kernel
theorem dX4_neighbours_50 : decode cX4_neighbours 50 = .ok (.iastore, 1) := by decide +kernel
theorem dX4_neighbours_51 : decode cX4_neighbours 51 = .ok (.iconst 1, 1) := by decide +kernel
theorem dX4_neighbours_52 : decode cX4_neighbours 52 = .ok (.ireturn, 1) := by decide +kernel
theorem dX4_latest_0 : decode cX4_latest 0 = .ok (.aload_n 0, 1) := by decide +kernel
theorem dX4_latest_1 : decode cX4_latest 1 = .ok (.iload_n 1, 1) := by decide +kernel
theorem dX4_latest_2 : decode cX4_latest 2 = .ok (.invokevirtual 78, 3) := by decide +kernel
theorem dX4_latest_5 : decode cX4_latest 5 = .ok (.ifCond .ne 5, 3) := by decide +kernel
theorem dX4_latest_8 : decode cX4_latest 8 = .ok (.iconst (-1), 1) := by decide +kernel
theorem dX4_latest_9 : decode cX4_latest 9 = .ok (.ireturn, 1) := by decide +kernel
theorem dX4_latest_10 : decode cX4_latest 10 = .ok (.iload_n 2, 1) := by decide +kernel
theorem dX4_latest_11 : decode cX4_latest 11 = .ok (.iconst 0, 1) := by decide +kernel
theorem dX4_latest_12 : decode cX4_latest 12 = .ok (.iconst 2, 1) := by decide +kernel
theorem dX4_latest_13 : decode cX4_latest 13 = .ok (.invokestatic 71, 3) := by decide +kernel
theorem dX4_latest_16 : decode cX4_latest 16 = .ok (.ifCond .eq 16, 3) := by decide +kernel
theorem dX4_latest_19 : decode cX4_latest 19 = .ok (.iload_n 3, 1) := by decide +kernel
theorem dX4_latest_20 : decode cX4_latest 20 = .ok (.bipush (-9), 2) := by decide +kernel
theorem dX4_latest_22 : decode cX4_latest 22 = .ok (.if_icmp .eq 13, 3) := by decide +kernel
theorem dX4_latest_25 : decode cX4_latest 25 = .ok (.iload_n 3, 1) := by decide +kernel
theorem dX4_latest_26 : decode cX4_latest 26 = .ok (.invokestatic 89, 3) := by decide +kernel
theorem dX4_latest_29 : decode cX4_latest 29 = .ok (.ifCond .ne 6, 3) := by decide +kernel
theorem dX4_latest_32 : decode cX4_latest 32 = .ok (.bipush (-2), 2) := by decide +kernel
theorem dX4_latest_34 : decode cX4_latest 34 = .ok (.ireturn, 1) := by decide +kernel
theorem dX4_latest_35 : decode cX4_latest 35 = .ok (.aload_n 0, 1) := by decide +kernel
theorem dX4_latest_36 : decode cX4_latest 36 = .ok (.getfield 22, 3) := by decide +kernel
theorem dX4_latest_39 : decode cX4_latest 39 = .ok (.iconst 3, 1) := by decide +kernel
theorem dX4_latest_40 : decode cX4_latest 40 = .ok (.iload_n 1, 1) := by decide +kernel
theorem dX4_latest_41 : decode cX4_latest 41 = .ok (.imul, 1) := by decide +kernel
theorem dX4_latest_42 : decode cX4_latest 42 = .ok (.iload_n 2, 1) := by decide +kernel
theorem dX4_latest_43 : decode cX4_latest 43 = .ok (.iadd, 1) := by decide +kernel
theorem dX4_latest_44 : decode cX4_latest 44 = .ok (.iaload, 1) := by decide +kernel
theorem dX4_latest_45 : decode cX4_latest 45 = .ok (.istore 4, 2) := by decide +kernel
theorem dX4_latest_47 : decode cX4_latest 47 = .ok (.aload_n 0, 1) := by decide +kernel
theorem dX4_latest_48 : decode cX4_latest 48 = .ok (.getfield 22, 3) := by decide +kernel
theorem dX4_latest_51 : decode cX4_latest 51 = .ok (.iconst 3, 1) := by decide +kernel
theorem dX4_latest_52 : decode cX4_latest 52 = .ok (.iload_n 1, 1) := by decide +kernel
theorem dX4_latest_53 : decode cX4_latest 53 = .ok (.imul, 1) := by decide +kernel
theorem dX4_latest_54 : decode cX4_latest 54 = .ok (.iload_n 2, 1) := by decide +kernel
theorem dX4_latest_55 : decode cX4_latest 55 = .ok (.iadd, 1) := by decide +kernel
theorem dX4_latest_56 : decode cX4_latest 56 = .ok (.iload_n 3, 1) := by decide +kernel
theorem dX4_latest_57 : decode cX4_latest 57 = .ok (.iastore, 1) := by decide +kernel
theorem dX4_latest_58 : decode cX4_latest 58 = .ok (.iload 4, 2) := by decide +kernel
theorem dX4_latest_60 : decode cX4_latest 60 = .ok (.ireturn, 1) := by decide +kernel
theorem dX4_isCargo_0 : decode cX4_isCargo 0 = .ok (.iload_n 1, 1) := by decide +kernel
theorem dX4_isCargo_1 : decode cX4_isCargo 1 = .ok (.iconst 0, 1) := by decide +kernel
theorem dX4_isCargo_2 : decode cX4_isCargo 2 = .ok (.aload_n 0, 1) := by decide +kernel
theorem dX4_isCargo_3 : decode cX4_isCargo 3 = .ok (.getfield 92, 3) := by decide +kernel
theorem dX4_isCargo_6 : decode cX4_isCargo 6 = .ok (.iconst 1, 1) := by decide +kernel
theorem dX4_isCargo_7 : decode cX4_isCargo 7 = .ok (.isub, 1) := by decide +kernel
theorem dX4_isCargo_8 : decode cX4_isCargo 8 = .ok (.invokestatic 71, 3) := by decide +kernel
theorem dX4_isCargo_11 : decode cX4_isCargo 11 = .ok (.ireturn, 1) := by decide +kernel
theorem dX4_isSet_0 : decode cX4_isSet 0 = .ok (.iload_n 0, 1) := by decide +kernel
theorem dX4_isSet_1 : decode cX4_isSet 1 = .ok (.iconst 0, 1) := by decide +kernel
theorem dX4_isSet_2 : decode cX4_isSet 2 = .ok (.sipush 255, 3) := by decide +kernel
theorem dX4_isSet_5 : decode cX4_isSet 5 = .ok (.invokestatic 71, 3) := by decide +kernel
theorem dX4_isSet_8 : decode cX4_isSet 8 = .ok (.ireturn, 1) := by decide +kernel
theorem dX4_cargo_0 : decode cX4_cargo 0 = .ok (.iload_n 1, 1) := by decide +kernel
theorem dX4_cargo_1 : decode cX4_cargo 1 = .ok (.invokestatic 89, 3) := by decide +kernel
theorem dX4_cargo_4 : decode cX4_cargo 4 = .ok (.ifCond .ne 5, 3) := by decide +kernel
theorem dX4_cargo_7 : decode cX4_cargo 7 = .ok (.iconst (-1), 1) := by decide +kernel
theorem dX4_cargo_8 : decode cX4_cargo 8 = .ok (.ireturn, 1) := by decide +kernel
theorem dX4_cargo_9 : decode cX4_cargo 9 = .ok (.iload_n 2, 1) := by decide +kernel
theorem dX4_cargo_10 : decode cX4_cargo 10 = .ok (.iconst 1, 1) := by decide +kernel
theorem dX4_cargo_11 : decode cX4_cargo 11 = .ok (.sipush 400, 3) := by decide +kernel
theorem dX4_cargo_14 : decode cX4_cargo 14 = .ok (.invokestatic 71, 3) := by decide +kernel
theorem dX4_cargo_17 : decode cX4_cargo 17 = .ok (.ifCond .eq 37, 3) := by decide +kernel
theorem dX4_cargo_20 : decode cX4_cargo 20 = .ok (.iload_n 3, 1) := by decide +kernel
theorem dX4_cargo_21 : decode cX4_cargo 21 = .ok (.iconst 0, 1) := by decide +kernel
theorem dX4_cargo_22 : decode cX4_cargo 22 = .ok (.bipush 15, 2) := by decide +kernel
theorem dX4_cargo_24 : decode cX4_cargo 24 = .ok (.invokestatic 71, 3) := by decide +kernel
theorem dX4_cargo_27 : decode cX4_cargo 27 = .ok (.ifCond .eq 27, 3) := by decide +kernel
theorem dX4_cargo_30 : decode cX4_cargo 30 = .ok (.iload 4, 2) := by decide +kernel
theorem dX4_cargo_32 : decode cX4_cargo 32 = .ok (.invokestatic 95, 3) := by decide +kernel
theorem dX4_cargo_35 : decode cX4_cargo 35 = .ok (.ifCond .eq 19, 3) := by decide +kernel
theorem dX4_cargo_38 : decode cX4_cargo 38 = .ok (.iload 5, 2) := by decide +kernel
theorem dX4_cargo_40 : decode cX4_cargo 40 = .ok (.invokestatic 95, 3) := by decide +kernel
theorem dX4_cargo_43 : decode cX4_cargo 43 = .ok (.ifCond .eq 11, 3) := by decide +kernel
theorem dX4_cargo_46 : decode cX4_cargo 46 = .ok (.iload 6, 2) := by decide +kernel
theorem dX4_cargo_48 : decode cX4_cargo 48 = .ok (.invokestatic 95, 3) := by decide +kernel
theorem dX4_cargo_51 : decode cX4_cargo 51 = .ok (.ifCond .ne 6, 3) := by decide +kernel
theorem dX4_cargo_54 : decode cX4_cargo 54 = .ok (.bipush (-2), 2) := by decide +kernel
theorem dX4_cargo_56 : decode cX4_cargo 56 = .ok (.ireturn, 1) := by decide +kernel
theorem dX4_cargo_57 : decode cX4_cargo 57 = .ok (.aload_n 0, 1) := by decide +kernel
theorem dX4_cargo_58 : decode cX4_cargo 58 = .ok (.getfield 92, 3) := by decide +kernel
theorem dX4_cargo_61 : decode cX4_cargo 61 = .ok (.iconst 4, 1) := by decide +kernel
theorem dX4_cargo_62 : decode cX4_cargo 62 = .ok (.if_icmp .ne 6, 3) := by decide +kernel
theorem dX4_cargo_65 : decode cX4_cargo 65 = .ok (.bipush (-4), 2) := by decide +kernel
theorem dX4_cargo_67 : decode cX4_cargo 67 = .ok (.ireturn, 1) := by decide +kernel
theorem dX4_cargo_68 : decode cX4_cargo 68 = .ok (.aload_n 0, 1) := by decide +kernel
theorem dX4_cargo_69 : decode cX4_cargo 69 = .ok (.getfield 34, 3) := by decide +kernel
theorem dX4_cargo_72 : decode cX4_cargo 72 = .ok (.aload_n 0, 1) := by decide +kernel
theorem dX4_cargo_73 : decode cX4_cargo 73 = .ok (.getfield 92, 3) := by decide +kernel
theorem dX4_cargo_76 : decode cX4_cargo 76 = .ok (.iload_n 1, 1) := by decide +kernel
theorem dX4_cargo_77 : decode cX4_cargo 77 = .ok (.iastore, 1) := by decide +kernel
theorem dX4_cargo_78 : decode cX4_cargo 78 = .ok (.aload_n 0, 1) := by decide +kernel
theorem dX4_cargo_79 : decode cX4_cargo 79 = .ok (.getfield 37, 3) := by decide +kernel
theorem dX4_cargo_82 : decode cX4_cargo 82 = .ok (.aload_n 0, 1) := by decide +kernel
theorem dX4_cargo_83 : decode cX4_cargo 83 = .ok (.getfield 92, 3) := by decide +kernel
theorem dX4_cargo_86 : decode cX4_cargo 86 = .ok (.iload_n 2, 1) := by decide +kernel
theorem dX4_cargo_87 : decode cX4_cargo 87 = .ok (.iastore, 1) := by decide +kernel
theorem dX4_cargo_88 : decode cX4_cargo 88 = .ok (.aload_n 0, 1) := by decide +kernel
theorem dX4_cargo_89 : decode cX4_cargo 89 = .ok (.getfield 40, 3) := by decide +kernel
theorem dX4_cargo_92 : decode cX4_cargo 92 = .ok (.aload_n 0, 1) := by decide +kernel
theorem dX4_cargo_93 : decode cX4_cargo 93 = .ok (.getfield 92, 3) := by decide +kernel
theorem dX4_cargo_96 : decode cX4_cargo 96 = .ok (.iload_n 3, 1) := by decide +kernel
theorem dX4_cargo_97 : decode cX4_cargo 97 = .ok (.iastore, 1) := by decide +kernel
theorem dX4_cargo_98 : decode cX4_cargo 98 = .ok (.aload_n 0, 1) := by decide +kernel
theorem dX4_cargo_99 : decode cX4_cargo 99 = .ok (.getfield 43, 3) := by decide +kernel
theorem dX4_cargo_102 : decode cX4_cargo 102 = .ok (.aload_n 0, 1) := by decide +kernel
theorem dX4_cargo_103 : decode cX4_cargo 103 = .ok (.getfield 92, 3) := by decide +kernel
theorem dX4_cargo_106 : decode cX4_cargo 106 = .ok (.iload 4, 2) := by decide +kernel
theorem dX4_cargo_108 : decode cX4_cargo 108 = .ok (.iastore, 1) := by decide +kernel
theorem dX4_cargo_109 : decode cX4_cargo 109 = .ok (.aload_n 0, 1) := by decide +kernel
theorem dX4_cargo_110 : decode cX4_cargo 110 = .ok (.getfield 46, 3) := by decide +kernel
theorem dX4_cargo_113 : decode cX4_cargo 113 = .ok (.aload_n 0, 1) := by decide +kernel
theorem dX4_cargo_114 : decode cX4_cargo 114 = .ok (.getfield 92, 3) := by decide +kernel
theorem dX4_cargo_117 : decode cX4_cargo 117 = .ok (.iload 5, 2) := by decide +kernel
theorem dX4_cargo_119 : decode cX4_cargo 119 = .ok (.iastore, 1) := by decide +kernel
theorem dX4_cargo_120 : decode cX4_cargo 120 = .ok (.aload_n 0, 1) := by decide +kernel
theorem dX4_cargo_121 : decode cX4_cargo 121 = .ok (.getfield 49, 3) := by decide +kernel
theorem dX4_cargo_124 : decode cX4_cargo 124 = .ok (.aload_n 0, 1) := by decide +kernel
theorem dX4_cargo_125 : decode cX4_cargo 125 = .ok (.getfield 92, 3) := by decide +kernel
theorem dX4_cargo_128 : decode cX4_cargo 128 = .ok (.iload 6, 2) := by decide +kernel
theorem dX4_cargo_130 : decode cX4_cargo 130 = .ok (.iastore, 1) := by decide +kernel
theorem dX4_cargo_131 : decode cX4_cargo 131 = .ok (.aload_n 0, 1) := by decide +kernel
theorem dX4_cargo_132 : decode cX4_cargo 132 = .ok (.dup, 1) := by decide +kernel
theorem dX4_cargo_133 : decode cX4_cargo 133 = .ok (.getfield 92, 3) := by decide +kernel
theorem dX4_cargo_136 : decode cX4_cargo 136 = .ok (.iconst 1, 1) := by decide +kernel
theorem dX4_cargo_137 : decode cX4_cargo 137 = .ok (.iadd, 1) := by decide +kernel
theorem dX4_cargo_138 : decode cX4_cargo 138 = .ok (.putfield 92, 3) := by decide +kernel
theorem dX4_cargo_141 : decode cX4_cargo 141 = .ok (.aload_n 0, 1) := by decide +kernel
theorem dX4_cargo_142 : decode cX4_cargo 142 = .ok (.getfield 92, 3) := by decide +kernel
theorem dX4_cargo_145 : decode cX4_cargo 145 = .ok (.iconst 1, 1) := by decide +kernel
theorem dX4_cargo_146 : decode cX4_cargo 146 = .ok (.isub, 1) := by decide +kernel
theorem dX4_cargo_147 : decode cX4_cargo 147 = .ok (.ireturn, 1) := by decide +kernel
theorem dX4_holders_0 : decode cX4_holders 0 = .ok (.iconst 0, 1) := by decide +kernel
theorem dX4_holders_1 : decode cX4_holders 1 = .ok (.istore_n 2, 1) := by decide +kernel
theorem dX4_holders_2 : decode cX4_holders 2 = .ok (.iconst 0, 1) := by decide +kernel
theorem dX4_holders_3 : decode cX4_holders 3 = .ok (.istore_n 3, 1) := by decide +kernel
theorem dX4_holders_4 : decode cX4_holders 4 = .ok (.iload_n 3, 1) := by decide +kernel
theorem dX4_holders_5 : decode cX4_holders 5 = .ok (.aload_n 0, 1) := by decide +kernel
theorem dX4_holders_6 : decode cX4_holders 6 = .ok (.getfield 75, 3) := by decide +kernel
theorem dX4_holders_9 : decode cX4_holders 9 = .ok (.if_icmp .ge 27, 3) := by decide +kernel
theorem dX4_holders_12 : decode cX4_holders 12 = .ok (.iload_n 2, 1) := by decide +kernel
theorem dX4_holders_13 : decode cX4_holders 13 = .ok (.aload_n 0, 1) := by decide +kernel
theorem dX4_holders_14 : decode cX4_holders 14 = .ok (.getfield 28, 3) := by decide +kernel
theorem dX4_holders_17 : decode cX4_holders 17 = .ok (.iload_n 3, 1) := by decide +kernel
theorem dX4_holders_18 : decode cX4_holders 18 = .ok (.iaload, 1) := by decide +kernel
theorem dX4_holders_19 : decode cX4_holders 19 = .ok (.iload_n 1, 1) := by decide +kernel
theorem dX4_holders_20 : decode cX4_holders 20 = .ok (.if_icmp .ne 7, 3) := by decide +kernel
theorem dX4_holders_23 : decode cX4_holders 23 = .ok (.iconst 1, 1) := by decide +kernel
theorem dX4_holders_24 : decode cX4_holders 24 = .ok (.goto 4, 3) := by decide +kernel
theorem dX4_holders_27 : decode cX4_holders 27 = .ok (.iconst 0, 1) := by decide +kernel
theorem dX4_holders_28 : decode cX4_holders 28 = .ok (.iadd, 1) := by decide +kernel
theorem dX4_holders_29 : decode cX4_holders 29 = .ok (.istore_n 2, 1) := by decide +kernel
theorem dX4_holders_30 : decode cX4_holders 30 = .ok (.iinc 3 1, 3) := by decide +kernel
theorem dX4_holders_33 : decode cX4_holders 33 = .ok (.goto (-29), 3) := by decide +kernel
theorem dX4_holders_36 : decode cX4_holders 36 = .ok (.iload_n 2, 1) := by decide +kernel
theorem dX4_holders_37 : decode cX4_holders 37 = .ok (.ireturn, 1) := by decide +kernel
theorem dX4_uncargo_0 : decode cX4_uncargo 0 = .ok (.aload_n 0, 1) := by decide +kernel
theorem dX4_uncargo_1 : decode cX4_uncargo 1 = .ok (.getfield 92, 3) := by decide +kernel
theorem dX4_uncargo_4 : decode cX4_uncargo 4 = .ok (.ifCond .eq 16, 3) := by decide +kernel
theorem dX4_uncargo_7 : decode cX4_uncargo 7 = .ok (.aload_n 0, 1) := by decide +kernel
theorem dX4_uncargo_8 : decode cX4_uncargo 8 = .ok (.aload_n 0, 1) := by decide +kernel
theorem dX4_uncargo_9 : decode cX4_uncargo 9 = .ok (.getfield 92, 3) := by decide +kernel
theorem dX4_uncargo_12 : decode cX4_uncargo 12 = .ok (.iconst 1, 1) := by decide +kernel
theorem dX4_uncargo_13 : decode cX4_uncargo 13 = .ok (.isub, 1) := by decide +kernel
theorem dX4_uncargo_14 : decode cX4_uncargo 14 = .ok (.invokevirtual 98, 3) := by decide +kernel
theorem dX4_uncargo_17 : decode cX4_uncargo 17 = .ok (.ifCond .le 6, 3) := by decide +kernel
theorem dX4_uncargo_20 : decode cX4_uncargo 20 = .ok (.bipush (-3), 2) := by decide +kernel
theorem dX4_uncargo_22 : decode cX4_uncargo 22 = .ok (.ireturn, 1) := by decide +kernel
theorem dX4_uncargo_23 : decode cX4_uncargo 23 = .ok (.aload_n 0, 1) := by decide +kernel
theorem dX4_uncargo_24 : decode cX4_uncargo 24 = .ok (.dup, 1) := by decide +kernel
theorem dX4_uncargo_25 : decode cX4_uncargo 25 = .ok (.getfield 92, 3) := by decide +kernel
theorem dX4_uncargo_28 : decode cX4_uncargo 28 = .ok (.iconst 1, 1) := by decide +kernel
theorem dX4_uncargo_29 : decode cX4_uncargo 29 = .ok (.isub, 1) := by decide +kernel
theorem dX4_uncargo_30 : decode cX4_uncargo 30 = .ok (.putfield 92, 3) := by decide +kernel
theorem dX4_uncargo_33 : decode cX4_uncargo 33 = .ok (.iconst 0, 1) := by decide +kernel
theorem dX4_uncargo_34 : decode cX4_uncargo 34 = .ok (.istore_n 1, 1) := by decide +kernel
theorem dX4_uncargo_35 : decode cX4_uncargo 35 = .ok (.iload_n 1, 1) := by decide +kernel
theorem dX4_uncargo_36 : decode cX4_uncargo 36 = .ok (.aload_n 0, 1) := by decide +kernel
theorem dX4_uncargo_37 : decode cX4_uncargo 37 = .ok (.getfield 75, 3) := by decide +kernel
theorem dX4_uncargo_40 : decode cX4_uncargo 40 = .ok (.if_icmp .ge 39, 3) := by decide +kernel
theorem dX4_uncargo_43 : decode cX4_uncargo 43 = .ok (.aload_n 0, 1) := by decide +kernel
theorem dX4_uncargo_44 : decode cX4_uncargo 44 = .ok (.getfield 25, 3) := by decide +kernel
theorem dX4_uncargo_47 : decode cX4_uncargo 47 = .ok (.iload_n 1, 1) := by decide +kernel
theorem dX4_uncargo_48 : decode cX4_uncargo 48 = .ok (.aload_n 0, 1) := by decide +kernel
theorem dX4_uncargo_49 : decode cX4_uncargo 49 = .ok (.getfield 25, 3) := by decide +kernel
theorem dX4_uncargo_52 : decode cX4_uncargo 52 = .ok (.iload_n 1, 1) := by decide +kernel
theorem dX4_uncargo_53 : decode cX4_uncargo 53 = .ok (.iaload, 1) := by decide +kernel
theorem dX4_uncargo_54 : decode cX4_uncargo 54 = .ok (.aload_n 0, 1) := by decide +kernel
theorem dX4_uncargo_55 : decode cX4_uncargo 55 = .ok (.getfield 92, 3) := by decide +kernel
theorem dX4_uncargo_58 : decode cX4_uncargo 58 = .ok (.if_icmp .ne 8, 3) := by decide +kernel
theorem dX4_uncargo_61 : decode cX4_uncargo 61 = .ok (.bipush (-9), 2) := by decide +kernel
theorem dX4_uncargo_63 : decode cX4_uncargo 63 = .ok (.goto 9, 3) := by decide +kernel
theorem dX4_uncargo_66 : decode cX4_uncargo 66 = .ok (.aload_n 0, 1) := by decide +kernel
theorem dX4_uncargo_67 : decode cX4_uncargo 67 = .ok (.getfield 25, 3) := by decide +kernel
theorem dX4_uncargo_70 : decode cX4_uncargo 70 = .ok (.iload_n 1, 1) := by decide +kernel
theorem dX4_uncargo_71 : decode cX4_uncargo 71 = .ok (.iaload, 1) := by decide +kernel
theorem dX4_uncargo_72 : decode cX4_uncargo 72 = .ok (.iastore, 1) := by decide +kernel
theorem dX4_uncargo_73 : decode cX4_uncargo 73 = .ok (.iinc 1 1, 3) := by decide +kernel
theorem dX4_uncargo_76 : decode cX4_uncargo 76 = .ok (.goto (-41), 3) := by decide +kernel
theorem dX4_uncargo_79 : decode cX4_uncargo 79 = .ok (.aload_n 0, 1) := by decide +kernel
theorem dX4_uncargo_80 : decode cX4_uncargo 80 = .ok (.getfield 92, 3) := by decide +kernel
theorem dX4_uncargo_83 : decode cX4_uncargo 83 = .ok (.ireturn, 1) := by decide +kernel
theorem dX4_amount_0 : decode cX4_amount 0 = .ok (.aload_n 0, 1) := by decide +kernel
theorem dX4_amount_1 : decode cX4_amount 1 = .ok (.iload_n 1, 1) := by decide +kernel
theorem dX4_amount_2 : decode cX4_amount 2 = .ok (.invokevirtual 102, 3) := by decide +kernel
theorem dX4_amount_5 : decode cX4_amount 5 = .ok (.ifCond .ne 5, 3) := by decide +kernel
theorem dX4_amount_8 : decode cX4_amount 8 = .ok (.iconst (-1), 1) := by decide +kernel
theorem dX4_amount_9 : decode cX4_amount 9 = .ok (.ireturn, 1) := by decide +kernel
theorem dX4_amount_10 : decode cX4_amount 10 = .ok (.iload_n 2, 1) := by decide +kernel
theorem dX4_amount_11 : decode cX4_amount 11 = .ok (.iconst 1, 1) := by decide +kernel
theorem dX4_amount_12 : decode cX4_amount 12 = .ok (.sipush 400, 3) := by decide +kernel
theorem dX4_amount_15 : decode cX4_amount 15 = .ok (.invokestatic 71, 3) := by decide +kernel
theorem dX4_amount_18 : decode cX4_amount 18 = .ok (.ifCond .ne 6, 3) := by decide +kernel
theorem dX4_amount_21 : decode cX4_amount 21 = .ok (.bipush (-2), 2) := by decide +kernel
theorem dX4_amount_23 : decode cX4_amount 23 = .ok (.ireturn, 1) := by decide +kernel
theorem dX4_amount_24 : decode cX4_amount 24 = .ok (.aload_n 0, 1) := by decide +kernel
theorem dX4_amount_25 : decode cX4_amount 25 = .ok (.iload_n 1, 1) := by decide +kernel
theorem dX4_amount_26 : decode cX4_amount 26 = .ok (.invokevirtual 98, 3) := by decide +kernel
theorem dX4_amount_29 : decode cX4_amount 29 = .ok (.ifCond .le 6, 3) := by decide +kernel
theorem dX4_amount_32 : decode cX4_amount 32 = .ok (.bipush (-3), 2) := by decide +kernel
theorem dX4_amount_34 : decode cX4_amount 34 = .ok (.ireturn, 1) := by decide +kernel
theorem dX4_amount_35 : decode cX4_amount 35 = .ok (.aload_n 0, 1) := by decide +kernel
theorem dX4_amount_36 : decode cX4_amount 36 = .ok (.getfield 37, 3) := by decide +kernel
theorem dX4_amount_39 : decode cX4_amount 39 = .ok (.iload_n 1, 1) := by decide +kernel
theorem dX4_amount_40 : decode cX4_amount 40 = .ok (.iaload, 1) := by decide +kernel
theorem dX4_amount_41 : decode cX4_amount 41 = .ok (.istore_n 3, 1) := by decide +kernel
theorem dX4_amount_42 : decode cX4_amount 42 = .ok (.aload_n 0, 1) := by decide +kernel
theorem dX4_amount_43 : decode cX4_amount 43 = .ok (.getfield 37, 3) := by decide +kernel
theorem dX4_amount_46 : decode cX4_amount 46 = .ok (.iload_n 1, 1) := by decide +kernel
theorem dX4_amount_47 : decode cX4_amount 47 = .ok (.iload_n 2, 1) := by decide +kernel
theorem dX4_amount_48 : decode cX4_amount 48 = .ok (.iastore, 1) := by decide +kernel
theorem dX4_amount_49 : decode cX4_amount 49 = .ok (.iload_n 3, 1) := by decide +kernel
theorem dX4_amount_50 : decode cX4_amount 50 = .ok (.ireturn, 1) := by decide +kernel
theorem dX4_washes_0 : decode cX4_washes 0 = .ok (.iload_n 1, 1) := by decide +kernel
theorem dX4_washes_1 : decode cX4_washes 1 = .ok (.invokestatic 89, 3) := by decide +kernel
theorem dX4_washes_4 : decode cX4_washes 4 = .ok (.ifCond .eq 10, 3) := by decide +kernel
theorem dX4_washes_7 : decode cX4_washes 7 = .ok (.iload_n 2, 1) := by decide +kernel
theorem dX4_washes_8 : decode cX4_washes 8 = .ok (.invokestatic 89, 3) := by decide +kernel
theorem dX4_washes_11 : decode cX4_washes 11 = .ok (.ifCond .ne 5, 3) := by decide +kernel
theorem dX4_washes_14 : decode cX4_washes 14 = .ok (.iconst (-1), 1) := by decide +kernel
theorem dX4_washes_15 : decode cX4_washes 15 = .ok (.ireturn, 1) := by decide +kernel
theorem dX4_washes_16 : decode cX4_washes 16 = .ok (.iload_n 3, 1) := by decide +kernel
theorem dX4_washes_17 : decode cX4_washes 17 = .ok (.iconst 0, 1) := by decide +kernel
theorem dX4_washes_18 : decode cX4_washes 18 = .ok (.iconst 3, 1) := by decide +kernel
theorem dX4_washes_19 : decode cX4_washes 19 = .ok (.invokestatic 71, 3) := by decide +kernel
theorem dX4_washes_22 : decode cX4_washes 22 = .ok (.ifCond .ne 6, 3) := by decide +kernel
theorem dX4_washes_25 : decode cX4_washes 25 = .ok (.bipush (-2), 2) := by decide +kernel
theorem dX4_washes_27 : decode cX4_washes 27 = .ok (.ireturn, 1) := by decide +kernel
theorem dX4_washes_28 : decode cX4_washes 28 = .ok (.aload_n 0, 1) := by decide +kernel
theorem dX4_washes_29 : decode cX4_washes 29 = .ok (.getfield 52, 3) := by decide +kernel
theorem dX4_washes_32 : decode cX4_washes 32 = .ok (.bipush 8, 2) := by decide +kernel
theorem dX4_washes_34 : decode cX4_washes 34 = .ok (.iload_n 1, 1) := by decide +kernel
theorem dX4_washes_35 : decode cX4_washes 35 = .ok (.imul, 1) := by decide +kernel
theorem dX4_washes_36 : decode cX4_washes 36 = .ok (.iload_n 2, 1) := by decide +kernel
theorem dX4_washes_37 : decode cX4_washes 37 = .ok (.iadd, 1) := by decide +kernel
theorem dX4_washes_38 : decode cX4_washes 38 = .ok (.iaload, 1) := by decide +kernel
theorem dX4_washes_39 : decode cX4_washes 39 = .ok (.istore 4, 2) := by decide +kernel
theorem dX4_washes_41 : decode cX4_washes 41 = .ok (.aload_n 0, 1) := by decide +kernel
theorem dX4_washes_42 : decode cX4_washes 42 = .ok (.getfield 52, 3) := by decide +kernel
theorem dX4_washes_45 : decode cX4_washes 45 = .ok (.bipush 8, 2) := by decide +kernel
theorem dX4_washes_47 : decode cX4_washes 47 = .ok (.iload_n 1, 1) := by decide +kernel
theorem dX4_washes_48 : decode cX4_washes 48 = .ok (.imul, 1) := by decide +kernel
theorem dX4_washes_49 : decode cX4_washes 49 = .ok (.iload_n 2, 1) := by decide +kernel
theorem dX4_washes_50 : decode cX4_washes 50 = .ok (.iadd, 1) := by decide +kernel
theorem dX4_washes_51 : decode cX4_washes 51 = .ok (.iload_n 3, 1) := by decide +kernel
theorem dX4_washes_52 : decode cX4_washes 52 = .ok (.iastore, 1) := by decide +kernel
theorem dX4_washes_53 : decode cX4_washes 53 = .ok (.iload 4, 2) := by decide +kernel
theorem dX4_washes_55 : decode cX4_washes 55 = .ok (.ireturn, 1) := by decide +kernel
theorem dX4_bound_0 : decode cX4_bound 0 = .ok (.iload_n 1, 1) := by decide +kernel
theorem dX4_bound_1 : decode cX4_bound 1 = .ok (.iconst 0, 1) := by decide +kernel
theorem dX4_bound_2 : decode cX4_bound 2 = .ok (.sipush 9999, 3) := by decide +kernel
theorem dX4_bound_5 : decode cX4_bound 5 = .ok (.invokestatic 71, 3) := by decide +kernel
theorem dX4_bound_8 : decode cX4_bound 8 = .ok (.ifCond .ne 6, 3) := by decide +kernel
theorem dX4_bound_11 : decode cX4_bound 11 = .ok (.bipush (-2), 2) := by decide +kernel
theorem dX4_bound_13 : decode cX4_bound 13 = .ok (.ireturn, 1) := by decide +kernel
theorem dX4_bound_14 : decode cX4_bound 14 = .ok (.aload_n 0, 1) := by decide +kernel
theorem dX4_bound_15 : decode cX4_bound 15 = .ok (.getfield 55, 3) := by decide +kernel
theorem dX4_bound_18 : decode cX4_bound 18 = .ok (.istore_n 2, 1) := by decide +kernel
theorem dX4_bound_19 : decode cX4_bound 19 = .ok (.aload_n 0, 1) := by decide +kernel
theorem dX4_bound_20 : decode cX4_bound 20 = .ok (.iload_n 1, 1) := by decide +kernel
theorem dX4_bound_21 : decode cX4_bound 21 = .ok (.putfield 55, 3) := by decide +kernel
theorem dX4_bound_24 : decode cX4_bound 24 = .ok (.iload_n 2, 1) := by decide +kernel
theorem dX4_bound_25 : decode cX4_bound 25 = .ok (.ireturn, 1) := by decide +kernel
theorem dX4_ofTank_0 : decode cX4_ofTank 0 = .ok (.aload_n 0, 1) := by decide +kernel
theorem dX4_ofTank_1 : decode cX4_ofTank 1 = .ok (.iload_n 1, 1) := by decide +kernel
theorem dX4_ofTank_2 : decode cX4_ofTank 2 = .ok (.invokevirtual 78, 3) := by decide +kernel
theorem dX4_ofTank_5 : decode cX4_ofTank 5 = .ok (.ifCond .ne 5, 3) := by decide +kernel
theorem dX4_ofTank_8 : decode cX4_ofTank 8 = .ok (.iconst (-1), 1) := by decide +kernel
theorem dX4_ofTank_9 : decode cX4_ofTank 9 = .ok (.ireturn, 1) := by decide +kernel
theorem dX4_ofTank_10 : decode cX4_ofTank 10 = .ok (.iload_n 2, 1) := by decide +kernel
theorem dX4_ofTank_11 : decode cX4_ofTank 11 = .ok (.tableswitch 107 0 8 #[49, 56, 63, 73, 80, 80, 80, 93, 100], 49) := by decide +kernel
theorem dX4_ofTank_60 : decode cX4_ofTank 60 = .ok (.aload_n 0, 1) := by decide +kernel
theorem dX4_ofTank_61 : decode cX4_ofTank 61 = .ok (.getfield 7, 3) := by decide +kernel
theorem dX4_ofTank_64 : decode cX4_ofTank 64 = .ok (.iload_n 1, 1) := by decide +kernel
theorem dX4_ofTank_65 : decode cX4_ofTank 65 = .ok (.iaload, 1) := by decide +kernel
theorem dX4_ofTank_66 : decode cX4_ofTank 66 = .ok (.ireturn, 1) := by decide +kernel
theorem dX4_ofTank_67 : decode cX4_ofTank 67 = .ok (.aload_n 0, 1) := by decide +kernel
theorem dX4_ofTank_68 : decode cX4_ofTank 68 = .ok (.getfield 13, 3) := by decide +kernel
theorem dX4_ofTank_71 : decode cX4_ofTank 71 = .ok (.iload_n 1, 1) := by decide +kernel
theorem dX4_ofTank_72 : decode cX4_ofTank 72 = .ok (.iaload, 1) := by decide +kernel
theorem dX4_ofTank_73 : decode cX4_ofTank 73 = .ok (.ireturn, 1) := by decide +kernel
theorem dX4_ofTank_74 : decode cX4_ofTank 74 = .ok (.aload_n 0, 1) := by decide +kernel
theorem dX4_ofTank_75 : decode cX4_ofTank 75 = .ok (.getfield 16, 3) := by decide +kernel
theorem dX4_ofTank_78 : decode cX4_ofTank 78 = .ok (.iload_n 1, 1) := by decide +kernel
theorem dX4_ofTank_79 : decode cX4_ofTank 79 = .ok (.iaload, 1) := by decide +kernel
theorem dX4_ofTank_80 : decode cX4_ofTank 80 = .ok (.bipush 10, 2) := by decide +kernel
theorem dX4_ofTank_82 : decode cX4_ofTank 82 = .ok (.iadd, 1) := by decide +kernel
theorem dX4_ofTank_83 : decode cX4_ofTank 83 = .ok (.ireturn, 1) := by decide +kernel
theorem dX4_ofTank_84 : decode cX4_ofTank 84 = .ok (.aload_n 0, 1) := by decide +kernel
theorem dX4_ofTank_85 : decode cX4_ofTank 85 = .ok (.getfield 19, 3) := by decide +kernel
theorem dX4_ofTank_88 : decode cX4_ofTank 88 = .ok (.iload_n 1, 1) := by decide +kernel
theorem dX4_ofTank_89 : decode cX4_ofTank 89 = .ok (.iaload, 1) := by decide +kernel
theorem dX4_ofTank_90 : decode cX4_ofTank 90 = .ok (.ireturn, 1) := by decide +kernel
theorem dX4_ofTank_91 : decode cX4_ofTank 91 = .ok (.aload_n 0, 1) := by decide +kernel
theorem dX4_ofTank_92 : decode cX4_ofTank 92 = .ok (.getfield 22, 3) := by decide +kernel
theorem dX4_ofTank_95 : decode cX4_ofTank 95 = .ok (.iconst 3, 1) := by decide +kernel
theorem dX4_ofTank_96 : decode cX4_ofTank 96 = .ok (.iload_n 1, 1) := by decide +kernel
theorem dX4_ofTank_97 : decode cX4_ofTank 97 = .ok (.imul, 1) := by decide +kernel
theorem dX4_ofTank_98 : decode cX4_ofTank 98 = .ok (.iload_n 2, 1) := by decide +kernel
theorem dX4_ofTank_99 : decode cX4_ofTank 99 = .ok (.iadd, 1) := by decide +kernel
theorem dX4_ofTank_100 : decode cX4_ofTank 100 = .ok (.iconst 4, 1) := by decide +kernel
theorem dX4_ofTank_101 : decode cX4_ofTank 101 = .ok (.isub, 1) := by decide +kernel
theorem dX4_ofTank_102 : decode cX4_ofTank 102 = .ok (.iaload, 1) := by decide +kernel
theorem dX4_ofTank_103 : decode cX4_ofTank 103 = .ok (.ireturn, 1) := by decide +kernel
theorem dX4_ofTank_104 : decode cX4_ofTank 104 = .ok (.aload_n 0, 1) := by decide +kernel
theorem dX4_ofTank_105 : decode cX4_ofTank 105 = .ok (.getfield 28, 3) := by decide +kernel
theorem dX4_ofTank_108 : decode cX4_ofTank 108 = .ok (.iload_n 1, 1) := by decide +kernel
theorem dX4_ofTank_109 : decode cX4_ofTank 109 = .ok (.iaload, 1) := by decide +kernel
theorem dX4_ofTank_110 : decode cX4_ofTank 110 = .ok (.ireturn, 1) := by decide +kernel
theorem dX4_ofTank_111 : decode cX4_ofTank 111 = .ok (.aload_n 0, 1) := by decide +kernel
theorem dX4_ofTank_112 : decode cX4_ofTank 112 = .ok (.getfield 31, 3) := by decide +kernel
theorem dX4_ofTank_115 : decode cX4_ofTank 115 = .ok (.iload_n 1, 1) := by decide +kernel
theorem dX4_ofTank_116 : decode cX4_ofTank 116 = .ok (.iaload, 1) := by decide +kernel
theorem dX4_ofTank_117 : decode cX4_ofTank 117 = .ok (.ireturn, 1) := by decide +kernel
theorem dX4_ofTank_118 : decode cX4_ofTank 118 = .ok (.bipush (-2), 2) := by decide +kernel
theorem dX4_ofTank_120 : decode cX4_ofTank 120 = .ok (.ireturn, 1) := by decide +kernel
theorem dX4_doClash_0 : decode cX4_doClash 0 = .ok (.aload_n 0, 1) := by decide +kernel
theorem dX4_doClash_1 : decode cX4_doClash 1 = .ok (.getfield 49, 3) := by decide +kernel
theorem dX4_doClash_4 : decode cX4_doClash 4 = .ok (.iload_n 1, 1) := by decide +kernel
theorem dX4_doClash_5 : decode cX4_doClash 5 = .ok (.iaload, 1) := by decide +kernel
theorem dX4_doClash_6 : decode cX4_doClash 6 = .ok (.aload_n 0, 1) := by decide +kernel
theorem dX4_doClash_7 : decode cX4_doClash 7 = .ok (.getfield 34, 3) := by decide +kernel
theorem dX4_doClash_10 : decode cX4_doClash 10 = .ok (.iload_n 2, 1) := by decide +kernel
theorem dX4_doClash_11 : decode cX4_doClash 11 = .ok (.iaload, 1) := by decide +kernel
theorem dX4_doClash_12 : decode cX4_doClash 12 = .ok (.invokestatic 86, 3) := by decide +kernel
theorem dX4_doClash_15 : decode cX4_doClash 15 = .ok (.ifCond .ne 21, 3) := by decide +kernel
theorem dX4_doClash_18 : decode cX4_doClash 18 = .ok (.aload_n 0, 1) := by decide +kernel
theorem dX4_doClash_19 : decode cX4_doClash 19 = .ok (.getfield 49, 3) := by decide +kernel
theorem dX4_doClash_22 : decode cX4_doClash 22 = .ok (.iload_n 2, 1) := by decide +kernel
theorem dX4_doClash_23 : decode cX4_doClash 23 = .ok (.iaload, 1) := by decide +kernel
theorem dX4_doClash_24 : decode cX4_doClash 24 = .ok (.aload_n 0, 1) := by decide +kernel
theorem dX4_doClash_25 : decode cX4_doClash 25 = .ok (.getfield 34, 3) := by decide +kernel
theorem dX4_doClash_28 : decode cX4_doClash 28 = .ok (.iload_n 1, 1) := by decide +kernel
theorem dX4_doClash_29 : decode cX4_doClash 29 = .ok (.iaload, 1) := by decide +kernel
theorem dX4_doClash_30 : decode cX4_doClash 30 = .ok (.invokestatic 86, 3) := by decide +kernel
theorem dX4_doClash_33 : decode cX4_doClash 33 = .ok (.ifCond .eq 7, 3) := by decide +kernel
theorem dX4_doClash_36 : decode cX4_doClash 36 = .ok (.iconst 1, 1) := by decide +kernel
theorem dX4_doClash_37 : decode cX4_doClash 37 = .ok (.goto 4, 3) := by decide +kernel
theorem dX4_doClash_40 : decode cX4_doClash 40 = .ok (.iconst 0, 1) := by decide +kernel
theorem dX4_doClash_41 : decode cX4_doClash 41 = .ok (.ireturn, 1) := by decide +kernel
theorem dX4_clashes_0 : decode cX4_clashes 0 = .ok (.iconst 0, 1) := by decide +kernel
theorem dX4_clashes_1 : decode cX4_clashes 1 = .ok (.istore_n 2, 1) := by decide +kernel
theorem dX4_clashes_2 : decode cX4_clashes 2 = .ok (.iconst 0, 1) := by decide +kernel
theorem dX4_clashes_3 : decode cX4_clashes 3 = .ok (.istore_n 3, 1) := by decide +kernel
theorem dX4_clashes_4 : decode cX4_clashes 4 = .ok (.iload_n 3, 1) := by decide +kernel
theorem dX4_clashes_5 : decode cX4_clashes 5 = .ok (.aload_n 0, 1) := by decide +kernel
theorem dX4_clashes_6 : decode cX4_clashes 6 = .ok (.getfield 92, 3) := by decide +kernel
theorem dX4_clashes_9 : decode cX4_clashes 9 = .ok (.if_icmp .ge 28, 3) := by decide +kernel
theorem dX4_clashes_12 : decode cX4_clashes 12 = .ok (.iload_n 2, 1) := by decide +kernel
theorem dX4_clashes_13 : decode cX4_clashes 13 = .ok (.aload_n 0, 1) := by decide +kernel
theorem dX4_clashes_14 : decode cX4_clashes 14 = .ok (.iload_n 1, 1) := by decide +kernel
theorem dX4_clashes_15 : decode cX4_clashes 15 = .ok (.iload_n 3, 1) := by decide +kernel
theorem dX4_clashes_16 : decode cX4_clashes 16 = .ok (.invokevirtual 105, 3) := by decide +kernel
theorem dX4_clashes_19 : decode cX4_clashes 19 = .ok (.ifCond .eq 9, 3) := by decide +kernel
theorem dX4_clashes_22 : decode cX4_clashes 22 = .ok (.iconst 1, 1) := by decide +kernel
theorem dX4_clashes_23 : decode cX4_clashes 23 = .ok (.iload_n 3, 1) := by decide +kernel
theorem dX4_clashes_24 : decode cX4_clashes 24 = .ok (.ishl, 1) := by decide +kernel
theorem dX4_clashes_25 : decode cX4_clashes 25 = .ok (.goto 4, 3) := by decide +kernel
theorem dX4_clashes_28 : decode cX4_clashes 28 = .ok (.iconst 0, 1) := by decide +kernel
theorem dX4_clashes_29 : decode cX4_clashes 29 = .ok (.ior, 1) := by decide +kernel
theorem dX4_clashes_30 : decode cX4_clashes 30 = .ok (.istore_n 2, 1) := by decide +kernel
theorem dX4_clashes_31 : decode cX4_clashes 31 = .ok (.iinc 3 1, 3) := by decide +kernel
theorem dX4_clashes_34 : decode cX4_clashes 34 = .ok (.goto (-30), 3) := by decide +kernel
theorem dX4_clashes_37 : decode cX4_clashes 37 = .ok (.iload_n 2, 1) := by decide +kernel
theorem dX4_clashes_38 : decode cX4_clashes 38 = .ok (.ireturn, 1) := by decide +kernel
theorem dX4_suited_0 : decode cX4_suited 0 = .ok (.iconst 0, 1) := by decide +kernel
theorem dX4_suited_1 : decode cX4_suited 1 = .ok (.istore_n 2, 1) := by decide +kernel
theorem dX4_suited_2 : decode cX4_suited 2 = .ok (.iconst 0, 1) := by decide +kernel
theorem dX4_suited_3 : decode cX4_suited 3 = .ok (.istore_n 3, 1) := by decide +kernel
theorem dX4_suited_4 : decode cX4_suited 4 = .ok (.iload_n 3, 1) := by decide +kernel
theorem dX4_suited_5 : decode cX4_suited 5 = .ok (.aload_n 0, 1) := by decide +kernel
theorem dX4_suited_6 : decode cX4_suited 6 = .ok (.getfield 75, 3) := by decide +kernel
theorem dX4_suited_9 : decode cX4_suited 9 = .ok (.if_icmp .ge 28, 3) := by decide +kernel
theorem dX4_suited_12 : decode cX4_suited 12 = .ok (.iload_n 2, 1) := by decide +kernel
theorem dX4_suited_13 : decode cX4_suited 13 = .ok (.aload_n 0, 1) := by decide +kernel
theorem dX4_suited_14 : decode cX4_suited 14 = .ok (.iload_n 3, 1) := by decide +kernel
theorem dX4_suited_15 : decode cX4_suited 15 = .ok (.iload_n 1, 1) := by decide +kernel
theorem dX4_suited_16 : decode cX4_suited 16 = .ok (.invokevirtual 108, 3) := by decide +kernel
theorem dX4_suited_19 : decode cX4_suited 19 = .ok (.ifCond .ne 9, 3) := by decide +kernel
theorem dX4_suited_22 : decode cX4_suited 22 = .ok (.iconst 1, 1) := by decide +kernel
theorem dX4_suited_23 : decode cX4_suited 23 = .ok (.iload_n 3, 1) := by decide +kernel
theorem dX4_suited_24 : decode cX4_suited 24 = .ok (.ishl, 1) := by decide +kernel
theorem dX4_suited_25 : decode cX4_suited 25 = .ok (.goto 4, 3) := by decide +kernel
theorem dX4_suited_28 : decode cX4_suited 28 = .ok (.iconst 0, 1) := by decide +kernel
theorem dX4_suited_29 : decode cX4_suited 29 = .ok (.ior, 1) := by decide +kernel
theorem dX4_suited_30 : decode cX4_suited 30 = .ok (.istore_n 2, 1) := by decide +kernel
theorem dX4_suited_31 : decode cX4_suited 31 = .ok (.iinc 3 1, 3) := by decide +kernel
theorem dX4_suited_34 : decode cX4_suited 34 = .ok (.goto (-30), 3) := by decide +kernel
theorem dX4_suited_37 : decode cX4_suited 37 = .ok (.iload_n 2, 1) := by decide +kernel
theorem dX4_suited_38 : decode cX4_suited 38 = .ok (.ireturn, 1) := by decide +kernel
theorem dX4_ofCargo_0 : decode cX4_ofCargo 0 = .ok (.aload_n 0, 1) := by decide +kernel
theorem dX4_ofCargo_1 : decode cX4_ofCargo 1 = .ok (.iload_n 1, 1) := by decide +kernel
theorem dX4_ofCargo_2 : decode cX4_ofCargo 2 = .ok (.invokevirtual 102, 3) := by decide +kernel
theorem dX4_ofCargo_5 : decode cX4_ofCargo 5 = .ok (.ifCond .ne 5, 3) := by decide +kernel
theorem dX4_ofCargo_8 : decode cX4_ofCargo 8 = .ok (.iconst (-1), 1) := by decide +kernel
theorem dX4_ofCargo_9 : decode cX4_ofCargo 9 = .ok (.ireturn, 1) := by decide +kernel
theorem dX4_ofCargo_10 : decode cX4_ofCargo 10 = .ok (.iload_n 2, 1) := by decide +kernel
theorem dX4_ofCargo_11 : decode cX4_ofCargo 11 = .ok (.tableswitch 99 0 7 #[45, 52, 59, 66, 73, 80, 87, 93], 45) := by decide +kernel
theorem dX4_ofCargo_56 : decode cX4_ofCargo 56 = .ok (.aload_n 0, 1) := by decide +kernel
theorem dX4_ofCargo_57 : decode cX4_ofCargo 57 = .ok (.getfield 34, 3) := by decide +kernel
theorem dX4_ofCargo_60 : decode cX4_ofCargo 60 = .ok (.iload_n 1, 1) := by decide +kernel
theorem dX4_ofCargo_61 : decode cX4_ofCargo 61 = .ok (.iaload, 1) := by decide +kernel
theorem dX4_ofCargo_62 : decode cX4_ofCargo 62 = .ok (.ireturn, 1) := by decide +kernel
theorem dX4_ofCargo_63 : decode cX4_ofCargo 63 = .ok (.aload_n 0, 1) := by decide +kernel
theorem dX4_ofCargo_64 : decode cX4_ofCargo 64 = .ok (.getfield 37, 3) := by decide +kernel
theorem dX4_ofCargo_67 : decode cX4_ofCargo 67 = .ok (.iload_n 1, 1) := by decide +kernel
theorem dX4_ofCargo_68 : decode cX4_ofCargo 68 = .ok (.iaload, 1) := by decide +kernel
theorem dX4_ofCargo_69 : decode cX4_ofCargo 69 = .ok (.ireturn, 1) := by decide +kernel
theorem dX4_ofCargo_70 : decode cX4_ofCargo 70 = .ok (.aload_n 0, 1) := by decide +kernel
theorem dX4_ofCargo_71 : decode cX4_ofCargo 71 = .ok (.getfield 40, 3) := by decide +kernel
theorem dX4_ofCargo_74 : decode cX4_ofCargo 74 = .ok (.iload_n 1, 1) := by decide +kernel
theorem dX4_ofCargo_75 : decode cX4_ofCargo 75 = .ok (.iaload, 1) := by decide +kernel
theorem dX4_ofCargo_76 : decode cX4_ofCargo 76 = .ok (.ireturn, 1) := by decide +kernel
theorem dX4_ofCargo_77 : decode cX4_ofCargo 77 = .ok (.aload_n 0, 1) := by decide +kernel
theorem dX4_ofCargo_78 : decode cX4_ofCargo 78 = .ok (.getfield 43, 3) := by decide +kernel
theorem dX4_ofCargo_81 : decode cX4_ofCargo 81 = .ok (.iload_n 1, 1) := by decide +kernel
theorem dX4_ofCargo_82 : decode cX4_ofCargo 82 = .ok (.iaload, 1) := by decide +kernel
theorem dX4_ofCargo_83 : decode cX4_ofCargo 83 = .ok (.ireturn, 1) := by decide +kernel
theorem dX4_ofCargo_84 : decode cX4_ofCargo 84 = .ok (.aload_n 0, 1) := by decide +kernel
theorem dX4_ofCargo_85 : decode cX4_ofCargo 85 = .ok (.getfield 46, 3) := by decide +kernel
theorem dX4_ofCargo_88 : decode cX4_ofCargo 88 = .ok (.iload_n 1, 1) := by decide +kernel
theorem dX4_ofCargo_89 : decode cX4_ofCargo 89 = .ok (.iaload, 1) := by decide +kernel
theorem dX4_ofCargo_90 : decode cX4_ofCargo 90 = .ok (.ireturn, 1) := by decide +kernel
theorem dX4_ofCargo_91 : decode cX4_ofCargo 91 = .ok (.aload_n 0, 1) := by decide +kernel
theorem dX4_ofCargo_92 : decode cX4_ofCargo 92 = .ok (.getfield 49, 3) := by decide +kernel
theorem dX4_ofCargo_95 : decode cX4_ofCargo 95 = .ok (.iload_n 1, 1) := by decide +kernel
theorem dX4_ofCargo_96 : decode cX4_ofCargo 96 = .ok (.iaload, 1) := by decide +kernel
theorem dX4_ofCargo_97 : decode cX4_ofCargo 97 = .ok (.ireturn, 1) := by decide +kernel
theorem dX4_ofCargo_98 : decode cX4_ofCargo 98 = .ok (.aload_n 0, 1) := by decide +kernel
theorem dX4_ofCargo_99 : decode cX4_ofCargo 99 = .ok (.iload_n 1, 1) := by decide +kernel
theorem dX4_ofCargo_100 : decode cX4_ofCargo 100 = .ok (.invokevirtual 112, 3) := by decide +kernel
theorem dX4_ofCargo_103 : decode cX4_ofCargo 103 = .ok (.ireturn, 1) := by decide +kernel
theorem dX4_ofCargo_104 : decode cX4_ofCargo 104 = .ok (.aload_n 0, 1) := by decide +kernel
theorem dX4_ofCargo_105 : decode cX4_ofCargo 105 = .ok (.iload_n 1, 1) := by decide +kernel
theorem dX4_ofCargo_106 : decode cX4_ofCargo 106 = .ok (.invokevirtual 115, 3) := by decide +kernel
theorem dX4_ofCargo_109 : decode cX4_ofCargo 109 = .ok (.ireturn, 1) := by decide +kernel
theorem dX4_ofCargo_110 : decode cX4_ofCargo 110 = .ok (.bipush (-2), 2) := by decide +kernel
theorem dX4_ofCargo_112 : decode cX4_ofCargo 112 = .ok (.ireturn, 1) := by decide +kernel
theorem dX4_washesFor_0 : decode cX4_washesFor 0 = .ok (.aload_n 0, 1) := by decide +kernel
theorem dX4_washesFor_1 : decode cX4_washesFor 1 = .ok (.getfield 22, 3) := by decide +kernel
theorem dX4_washesFor_4 : decode cX4_washesFor 4 = .ok (.iconst 3, 1) := by decide +kernel
theorem dX4_washesFor_5 : decode cX4_washesFor 5 = .ok (.iload_n 1, 1) := by decide +kernel
theorem dX4_washesFor_6 : decode cX4_washesFor 6 = .ok (.imul, 1) := by decide +kernel
theorem dX4_washesFor_7 : decode cX4_washesFor 7 = .ok (.iaload, 1) := by decide +kernel
theorem dX4_washesFor_8 : decode cX4_washesFor 8 = .ok (.istore_n 3, 1) := by decide +kernel
theorem dX4_washesFor_9 : decode cX4_washesFor 9 = .ok (.iload_n 3, 1) := by decide +kernel
theorem dX4_washesFor_10 : decode cX4_washesFor 10 = .ok (.bipush (-9), 2) := by decide +kernel
theorem dX4_washesFor_12 : decode cX4_washesFor 12 = .ok (.if_icmp .ne 7, 3) := by decide +kernel
theorem dX4_washesFor_15 : decode cX4_washesFor 15 = .ok (.iconst 0, 1) := by decide +kernel
theorem dX4_washesFor_16 : decode cX4_washesFor 16 = .ok (.goto 19, 3) := by decide +kernel
theorem dX4_washesFor_19 : decode cX4_washesFor 19 = .ok (.aload_n 0, 1) := by decide +kernel
theorem dX4_washesFor_20 : decode cX4_washesFor 20 = .ok (.getfield 52, 3) := by decide +kernel
theorem dX4_washesFor_23 : decode cX4_washesFor 23 = .ok (.bipush 8, 2) := by decide +kernel
theorem dX4_washesFor_25 : decode cX4_washesFor 25 = .ok (.iload_n 3, 1) := by decide +kernel
theorem dX4_washesFor_26 : decode cX4_washesFor 26 = .ok (.imul, 1) := by decide +kernel
theorem dX4_washesFor_27 : decode cX4_washesFor 27 = .ok (.aload_n 0, 1) := by decide +kernel
theorem dX4_washesFor_28 : decode cX4_washesFor 28 = .ok (.getfield 34, 3) := by decide +kernel
theorem dX4_washesFor_31 : decode cX4_washesFor 31 = .ok (.iload_n 2, 1) := by decide +kernel
theorem dX4_washesFor_32 : decode cX4_washesFor 32 = .ok (.iaload, 1) := by decide +kernel
theorem dX4_washesFor_33 : decode cX4_washesFor 33 = .ok (.iadd, 1) := by decide +kernel
theorem dX4_washesFor_34 : decode cX4_washesFor 34 = .ok (.iaload, 1) := by decide +kernel
theorem dX4_washesFor_35 : decode cX4_washesFor 35 = .ok (.ireturn, 1) := by decide +kernel
theorem dX4_needs_0 : decode cX4_needs 0 = .ok (.aload_n 0, 1) := by decide +kernel
theorem dX4_needs_1 : decode cX4_needs 1 = .ok (.iload_n 1, 1) := by decide +kernel
theorem dX4_needs_2 : decode cX4_needs 2 = .ok (.invokevirtual 78, 3) := by decide +kernel
theorem dX4_needs_5 : decode cX4_needs 5 = .ok (.ifCond .eq 20, 3) := by decide +kernel
theorem dX4_needs_8 : decode cX4_needs 8 = .ok (.aload_n 0, 1) := by decide +kernel
theorem dX4_needs_9 : decode cX4_needs 9 = .ok (.iload_n 2, 1) := by decide +kernel
theorem dX4_needs_10 : decode cX4_needs 10 = .ok (.invokevirtual 102, 3) := by decide +kernel
theorem dX4_needs_13 : decode cX4_needs 13 = .ok (.ifCond .eq 12, 3) := by decide +kernel
theorem dX4_needs_16 : decode cX4_needs 16 = .ok (.aload_n 0, 1) := by decide +kernel
theorem dX4_needs_17 : decode cX4_needs 17 = .ok (.iload_n 1, 1) := by decide +kernel
theorem dX4_needs_18 : decode cX4_needs 18 = .ok (.iload_n 2, 1) := by decide +kernel
theorem dX4_needs_19 : decode cX4_needs 19 = .ok (.invokevirtual 118, 3) := by decide +kernel
theorem dX4_needs_22 : decode cX4_needs 22 = .ok (.goto 4, 3) := by decide +kernel
theorem dX4_needs_25 : decode cX4_needs 25 = .ok (.iconst (-1), 1) := by decide +kernel
theorem dX4_needs_26 : decode cX4_needs 26 = .ok (.ireturn, 1) := by decide +kernel
theorem dX4_whyNot_0 : decode cX4_whyNot 0 = .ok (.aload_n 0, 1) := by decide +kernel
theorem dX4_whyNot_1 : decode cX4_whyNot 1 = .ok (.getfield 40, 3) := by decide +kernel
theorem dX4_whyNot_4 : decode cX4_whyNot 4 = .ok (.iload_n 2, 1) := by decide +kernel
theorem dX4_whyNot_5 : decode cX4_whyNot 5 = .ok (.iaload, 1) := by decide +kernel
theorem dX4_whyNot_6 : decode cX4_whyNot 6 = .ok (.aload_n 0, 1) := by decide +kernel
theorem dX4_whyNot_7 : decode cX4_whyNot 7 = .ok (.getfield 13, 3) := by decide +kernel
theorem dX4_whyNot_10 : decode cX4_whyNot 10 = .ok (.iload_n 1, 1) := by decide +kernel
theorem dX4_whyNot_11 : decode cX4_whyNot 11 = .ok (.iaload, 1) := by decide +kernel
theorem dX4_whyNot_12 : decode cX4_whyNot 12 = .ok (.invokestatic 86, 3) := by decide +kernel
theorem dX4_whyNot_15 : decode cX4_whyNot 15 = .ok (.ifCond .eq 7, 3) := by decide +kernel
theorem dX4_whyNot_18 : decode cX4_whyNot 18 = .ok (.iconst 0, 1) := by decide +kernel
theorem dX4_whyNot_19 : decode cX4_whyNot 19 = .ok (.goto 4, 3) := by decide +kernel
theorem dX4_whyNot_22 : decode cX4_whyNot 22 = .ok (.iconst 1, 1) := by decide +kernel
theorem dX4_whyNot_23 : decode cX4_whyNot 23 = .ok (.istore_n 3, 1) := by decide +kernel
theorem dX4_whyNot_24 : decode cX4_whyNot 24 = .ok (.iconst 0, 1) := by decide +kernel
theorem dX4_whyNot_25 : decode cX4_whyNot 25 = .ok (.istore 4, 2) := by decide +kernel
theorem dX4_whyNot_27 : decode cX4_whyNot 27 = .ok (.iload 4, 2) := by decide +kernel
theorem dX4_whyNot_29 : decode cX4_whyNot 29 = .ok (.iconst 3, 1) := by decide +kernel
theorem dX4_whyNot_30 : decode cX4_whyNot 30 = .ok (.if_icmp .ge 78, 3) := by decide +kernel
theorem dX4_whyNot_33 : decode cX4_whyNot 33 = .ok (.aload_n 0, 1) := by decide +kernel
theorem dX4_whyNot_34 : decode cX4_whyNot 34 = .ok (.getfield 22, 3) := by decide +kernel
theorem dX4_whyNot_37 : decode cX4_whyNot 37 = .ok (.iconst 3, 1) := by decide +kernel
theorem dX4_whyNot_38 : decode cX4_whyNot 38 = .ok (.iload_n 1, 1) := by decide +kernel
theorem dX4_whyNot_39 : decode cX4_whyNot 39 = .ok (.imul, 1) := by decide +kernel
theorem dX4_whyNot_40 : decode cX4_whyNot 40 = .ok (.iload 4, 2) := by decide +kernel
theorem dX4_whyNot_42 : decode cX4_whyNot 42 = .ok (.iadd, 1) := by decide +kernel
theorem dX4_whyNot_43 : decode cX4_whyNot 43 = .ok (.iaload, 1) := by decide +kernel
theorem dX4_whyNot_44 : decode cX4_whyNot 44 = .ok (.istore 5, 2) := by decide +kernel
theorem dX4_whyNot_46 : decode cX4_whyNot 46 = .ok (.iload 5, 2) := by decide +kernel
theorem dX4_whyNot_48 : decode cX4_whyNot 48 = .ok (.bipush (-9), 2) := by decide +kernel
theorem dX4_whyNot_50 : decode cX4_whyNot 50 = .ok (.if_icmp .eq 52, 3) := by decide +kernel
theorem dX4_whyNot_53 : decode cX4_whyNot 53 = .ok (.iload_n 3, 1) := by decide +kernel
theorem dX4_whyNot_54 : decode cX4_whyNot 54 = .ok (.iload 4, 2) := by decide +kernel
theorem dX4_whyNot_56 : decode cX4_whyNot 56 = .ok (.ifCond .ne 21, 3) := by decide +kernel
theorem dX4_whyNot_59 : decode cX4_whyNot 59 = .ok (.aload_n 0, 1) := by decide +kernel
theorem dX4_whyNot_60 : decode cX4_whyNot 60 = .ok (.getfield 43, 3) := by decide +kernel
theorem dX4_whyNot_63 : decode cX4_whyNot 63 = .ok (.iload_n 2, 1) := by decide +kernel
theorem dX4_whyNot_64 : decode cX4_whyNot 64 = .ok (.iaload, 1) := by decide +kernel
theorem dX4_whyNot_65 : decode cX4_whyNot 65 = .ok (.iload 5, 2) := by decide +kernel
theorem dX4_whyNot_67 : decode cX4_whyNot 67 = .ok (.invokestatic 86, 3) := by decide +kernel
theorem dX4_whyNot_70 : decode cX4_whyNot 70 = .ok (.ifCond .eq 7, 3) := by decide +kernel
theorem dX4_whyNot_73 : decode cX4_whyNot 73 = .ok (.iconst 2, 1) := by decide +kernel
theorem dX4_whyNot_74 : decode cX4_whyNot 74 = .ok (.goto 4, 3) := by decide +kernel
theorem dX4_whyNot_77 : decode cX4_whyNot 77 = .ok (.iconst 0, 1) := by decide +kernel
theorem dX4_whyNot_78 : decode cX4_whyNot 78 = .ok (.ior, 1) := by decide +kernel
theorem dX4_whyNot_79 : decode cX4_whyNot 79 = .ok (.istore_n 3, 1) := by decide +kernel
theorem dX4_whyNot_80 : decode cX4_whyNot 80 = .ok (.iload_n 3, 1) := by decide +kernel
theorem dX4_whyNot_81 : decode cX4_whyNot 81 = .ok (.aload_n 0, 1) := by decide +kernel
theorem dX4_whyNot_82 : decode cX4_whyNot 82 = .ok (.getfield 46, 3) := by decide +kernel
theorem dX4_whyNot_85 : decode cX4_whyNot 85 = .ok (.iload_n 2, 1) := by decide +kernel
theorem dX4_whyNot_86 : decode cX4_whyNot 86 = .ok (.iaload, 1) := by decide +kernel
theorem dX4_whyNot_87 : decode cX4_whyNot 87 = .ok (.iload 5, 2) := by decide +kernel
theorem dX4_whyNot_89 : decode cX4_whyNot 89 = .ok (.invokestatic 86, 3) := by decide +kernel
theorem dX4_whyNot_92 : decode cX4_whyNot 92 = .ok (.ifCond .eq 7, 3) := by decide +kernel
theorem dX4_whyNot_95 : decode cX4_whyNot 95 = .ok (.iconst 4, 1) := by decide +kernel
theorem dX4_whyNot_96 : decode cX4_whyNot 96 = .ok (.goto 4, 3) := by decide +kernel
theorem dX4_whyNot_99 : decode cX4_whyNot 99 = .ok (.iconst 0, 1) := by decide +kernel
theorem dX4_whyNot_100 : decode cX4_whyNot 100 = .ok (.ior, 1) := by decide +kernel
theorem dX4_whyNot_101 : decode cX4_whyNot 101 = .ok (.istore_n 3, 1) := by decide +kernel
theorem dX4_whyNot_102 : decode cX4_whyNot 102 = .ok (.iinc 4 1, 3) := by decide +kernel
theorem dX4_whyNot_105 : decode cX4_whyNot 105 = .ok (.goto (-78), 3) := by decide +kernel
theorem dX4_whyNot_108 : decode cX4_whyNot 108 = .ok (.iload_n 3, 1) := by decide +kernel
theorem dX4_whyNot_109 : decode cX4_whyNot 109 = .ok (.ireturn, 1) := by decide +kernel
theorem dX4_why_0 : decode cX4_why 0 = .ok (.aload_n 0, 1) := by decide +kernel
theorem dX4_why_1 : decode cX4_why 1 = .ok (.iload_n 1, 1) := by decide +kernel
theorem dX4_why_2 : decode cX4_why 2 = .ok (.invokevirtual 78, 3) := by decide +kernel
theorem dX4_why_5 : decode cX4_why 5 = .ok (.ifCond .eq 20, 3) := by decide +kernel
theorem dX4_why_8 : decode cX4_why 8 = .ok (.aload_n 0, 1) := by decide +kernel
theorem dX4_why_9 : decode cX4_why 9 = .ok (.iload_n 2, 1) := by decide +kernel
theorem dX4_why_10 : decode cX4_why 10 = .ok (.invokevirtual 102, 3) := by decide +kernel
theorem dX4_why_13 : decode cX4_why 13 = .ok (.ifCond .eq 12, 3) := by decide +kernel
theorem dX4_why_16 : decode cX4_why 16 = .ok (.aload_n 0, 1) := by decide +kernel
theorem dX4_why_17 : decode cX4_why 17 = .ok (.iload_n 1, 1) := by decide +kernel
theorem dX4_why_18 : decode cX4_why 18 = .ok (.iload_n 2, 1) := by decide +kernel
theorem dX4_why_19 : decode cX4_why 19 = .ok (.invokevirtual 108, 3) := by decide +kernel
theorem dX4_why_22 : decode cX4_why 22 = .ok (.goto 4, 3) := by decide +kernel
theorem dX4_why_25 : decode cX4_why 25 = .ok (.iconst (-1), 1) := by decide +kernel
theorem dX4_why_26 : decode cX4_why 26 = .ok (.ireturn, 1) := by decide +kernel
theorem dX4_isSetOfCargoes_0 : decode cX4_isSetOfCargoes 0 = .ok (.iload_n 1, 1) := by decide +kernel
theorem dX4_isSetOfCargoes_1 : decode cX4_isSetOfCargoes 1 = .ok (.iconst 0, 1) := by decide +kernel
theorem dX4_isSetOfCargoes_2 : decode cX4_isSetOfCargoes 2 = .ok (.iconst 1, 1) := by decide +kernel
theorem dX4_isSetOfCargoes_3 : decode cX4_isSetOfCargoes 3 = .ok (.aload_n 0, 1) := by decide +kernel
theorem dX4_isSetOfCargoes_4 : decode cX4_isSetOfCargoes 4 = .ok (.getfield 92, 3) := by decide +kernel
theorem dX4_isSetOfCargoes_7 : decode cX4_isSetOfCargoes 7 = .ok (.ishl, 1) := by decide +kernel
theorem dX4_isSetOfCargoes_8 : decode cX4_isSetOfCargoes 8 = .ok (.iconst 1, 1) := by decide +kernel
theorem dX4_isSetOfCargoes_9 : decode cX4_isSetOfCargoes 9 = .ok (.isub, 1) := by decide +kernel
theorem dX4_isSetOfCargoes_10 : decode cX4_isSetOfCargoes 10 = .ok (.invokestatic 71, 3) := by decide +kernel
theorem dX4_isSetOfCargoes_13 : decode cX4_isSetOfCargoes 13 = .ok (.ireturn, 1) := by decide +kernel
theorem dX4_plan_0 : decode cX4_plan 0 = .ok (.aload_n 0, 1) := by decide +kernel
theorem dX4_plan_1 : decode cX4_plan 1 = .ok (.iload_n 1, 1) := by decide +kernel
theorem dX4_plan_2 : decode cX4_plan 2 = .ok (.invokevirtual 78, 3) := by decide +kernel
theorem dX4_plan_5 : decode cX4_plan 5 = .ok (.ifCond .eq 17, 3) := by decide +kernel
theorem dX4_plan_8 : decode cX4_plan 8 = .ok (.iload_n 2, 1) := by decide +kernel
theorem dX4_plan_9 : decode cX4_plan 9 = .ok (.bipush (-9), 2) := by decide +kernel
theorem dX4_plan_11 : decode cX4_plan 11 = .ok (.if_icmp .eq 13, 3) := by decide +kernel
theorem dX4_plan_14 : decode cX4_plan 14 = .ok (.aload_n 0, 1) := by decide +kernel
theorem dX4_plan_15 : decode cX4_plan 15 = .ok (.iload_n 2, 1) := by decide +kernel
theorem dX4_plan_16 : decode cX4_plan 16 = .ok (.invokevirtual 102, 3) := by decide +kernel
theorem dX4_plan_19 : decode cX4_plan 19 = .ok (.ifCond .ne 5, 3) := by decide +kernel
theorem dX4_plan_22 : decode cX4_plan 22 = .ok (.iconst (-1), 1) := by decide +kernel
theorem dX4_plan_23 : decode cX4_plan 23 = .ok (.ireturn, 1) := by decide +kernel
theorem dX4_plan_24 : decode cX4_plan 24 = .ok (.aload_n 0, 1) := by decide +kernel
theorem dX4_plan_25 : decode cX4_plan 25 = .ok (.getfield 25, 3) := by decide +kernel
theorem dX4_plan_28 : decode cX4_plan 28 = .ok (.iload_n 1, 1) := by decide +kernel
theorem dX4_plan_29 : decode cX4_plan 29 = .ok (.iaload, 1) := by decide +kernel
theorem dX4_plan_30 : decode cX4_plan 30 = .ok (.istore_n 3, 1) := by decide +kernel
theorem dX4_plan_31 : decode cX4_plan 31 = .ok (.aload_n 0, 1) := by decide +kernel
theorem dX4_plan_32 : decode cX4_plan 32 = .ok (.getfield 25, 3) := by decide +kernel
theorem dX4_plan_35 : decode cX4_plan 35 = .ok (.iload_n 1, 1) := by decide +kernel
theorem dX4_plan_36 : decode cX4_plan 36 = .ok (.iload_n 2, 1) := by decide +kernel
theorem dX4_plan_37 : decode cX4_plan 37 = .ok (.iastore, 1) := by decide +kernel
theorem dX4_plan_38 : decode cX4_plan 38 = .ok (.iload_n 3, 1) := by decide +kernel
theorem dX4_plan_39 : decode cX4_plan 39 = .ok (.ireturn, 1) := by decide +kernel
theorem dX4_triesPlan_0 : decode cX4_triesPlan 0 = .ok (.iconst 0, 1) := by decide +kernel
theorem dX4_triesPlan_1 : decode cX4_triesPlan 1 = .ok (.istore_n 1, 1) := by decide +kernel
theorem dX4_triesPlan_2 : decode cX4_triesPlan 2 = .ok (.iload_n 1, 1) := by decide +kernel
theorem dX4_triesPlan_3 : decode cX4_triesPlan 3 = .ok (.aload_n 0, 1) := by decide +kernel
theorem dX4_triesPlan_4 : decode cX4_triesPlan 4 = .ok (.getfield 75, 3) := by decide +kernel
theorem dX4_triesPlan_7 : decode cX4_triesPlan 7 = .ok (.if_icmp .ge 21, 3) := by decide +kernel
theorem dX4_triesPlan_10 : decode cX4_triesPlan 10 = .ok (.aload_n 0, 1) := by decide +kernel
theorem dX4_triesPlan_11 : decode cX4_triesPlan 11 = .ok (.getfield 59, 3) := by decide +kernel
theorem dX4_triesPlan_14 : decode cX4_triesPlan 14 = .ok (.iload_n 1, 1) := by decide +kernel
theorem dX4_triesPlan_15 : decode cX4_triesPlan 15 = .ok (.aload_n 0, 1) := by decide +kernel
theorem dX4_triesPlan_16 : decode cX4_triesPlan 16 = .ok (.getfield 25, 3) := by decide +kernel
theorem dX4_triesPlan_19 : decode cX4_triesPlan 19 = .ok (.iload_n 1, 1) := by decide +kernel
theorem dX4_triesPlan_20 : decode cX4_triesPlan 20 = .ok (.iaload, 1) := by decide +kernel
theorem dX4_triesPlan_21 : decode cX4_triesPlan 21 = .ok (.iastore, 1) := by decide +kernel
theorem dX4_triesPlan_22 : decode cX4_triesPlan 22 = .ok (.iinc 1 1, 3) := by decide +kernel
theorem dX4_triesPlan_25 : decode cX4_triesPlan 25 = .ok (.goto (-23), 3) := by decide +kernel
theorem dX4_triesPlan_28 : decode cX4_triesPlan 28 = .ok (.return_, 1) := by decide +kernel
theorem dX4_fills_0 : decode cX4_fills 0 = .ok (.iconst 0, 1) := by decide +kernel
theorem dX4_fills_1 : decode cX4_fills 1 = .ok (.istore_n 1, 1) := by decide +kernel
theorem dX4_fills_2 : decode cX4_fills 2 = .ok (.iload_n 1, 1) := by decide +kernel
theorem dX4_fills_3 : decode cX4_fills 3 = .ok (.aload_n 0, 1) := by decide +kernel
theorem dX4_fills_4 : decode cX4_fills 4 = .ok (.getfield 75, 3) := by decide +kernel
theorem dX4_fills_7 : decode cX4_fills 7 = .ok (.if_icmp .ge 16, 3) := by decide +kernel
theorem dX4_fills_10 : decode cX4_fills 10 = .ok (.aload_n 0, 1) := by decide +kernel
theorem dX4_fills_11 : decode cX4_fills 11 = .ok (.getfield 62, 3) := by decide +kernel
theorem dX4_fills_14 : decode cX4_fills 14 = .ok (.iload_n 1, 1) := by decide +kernel
theorem dX4_fills_15 : decode cX4_fills 15 = .ok (.iconst 0, 1) := by decide +kernel
theorem dX4_fills_16 : decode cX4_fills 16 = .ok (.iastore, 1) := by decide +kernel
theorem dX4_fills_17 : decode cX4_fills 17 = .ok (.iinc 1 1, 3) := by decide +kernel
theorem dX4_fills_20 : decode cX4_fills 20 = .ok (.goto (-18), 3) := by decide +kernel
theorem dX4_fills_23 : decode cX4_fills 23 = .ok (.iconst 0, 1) := by decide +kernel
theorem dX4_fills_24 : decode cX4_fills 24 = .ok (.istore_n 1, 1) := by decide +kernel
theorem dX4_fills_25 : decode cX4_fills 25 = .ok (.iload_n 1, 1) := by decide +kernel
theorem dX4_fills_26 : decode cX4_fills 26 = .ok (.aload_n 0, 1) := by decide +kernel
theorem dX4_fills_27 : decode cX4_fills 27 = .ok (.getfield 92, 3) := by decide +kernel
theorem dX4_fills_30 : decode cX4_fills 30 = .ok (.if_icmp .ge 77, 3) := by decide +kernel
theorem dX4_fills_33 : decode cX4_fills 33 = .ok (.aload_n 0, 1) := by decide +kernel
theorem dX4_fills_34 : decode cX4_fills 34 = .ok (.getfield 37, 3) := by decide +kernel
theorem dX4_fills_37 : decode cX4_fills 37 = .ok (.iload_n 1, 1) := by decide +kernel
theorem dX4_fills_38 : decode cX4_fills 38 = .ok (.iaload, 1) := by decide +kernel
theorem dX4_fills_39 : decode cX4_fills 39 = .ok (.istore_n 2, 1) := by decide +kernel
theorem dX4_fills_40 : decode cX4_fills 40 = .ok (.iconst 0, 1) := by decide +kernel
theorem dX4_fills_41 : decode cX4_fills 41 = .ok (.istore_n 3, 1) := by decide +kernel
theorem dX4_fills_42 : decode cX4_fills 42 = .ok (.iload_n 3, 1) := by decide +kernel
theorem dX4_fills_43 : decode cX4_fills 43 = .ok (.aload_n 0, 1) := by decide +kernel
theorem dX4_fills_44 : decode cX4_fills 44 = .ok (.getfield 75, 3) := by decide +kernel
theorem dX4_fills_47 : decode cX4_fills 47 = .ok (.if_icmp .ge 54, 3) := by decide +kernel
theorem dX4_fills_50 : decode cX4_fills 50 = .ok (.aload_n 0, 1) := by decide +kernel
theorem dX4_fills_51 : decode cX4_fills 51 = .ok (.getfield 59, 3) := by decide +kernel
theorem dX4_fills_54 : decode cX4_fills 54 = .ok (.iload_n 3, 1) := by decide +kernel
theorem dX4_fills_55 : decode cX4_fills 55 = .ok (.iaload, 1) := by decide +kernel
theorem dX4_fills_56 : decode cX4_fills 56 = .ok (.iload_n 1, 1) := by decide +kernel
theorem dX4_fills_57 : decode cX4_fills 57 = .ok (.if_icmp .ne 38, 3) := by decide +kernel
theorem dX4_fills_60 : decode cX4_fills 60 = .ok (.aload_n 0, 1) := by decide +kernel
theorem dX4_fills_61 : decode cX4_fills 61 = .ok (.getfield 62, 3) := by decide +kernel
theorem dX4_fills_64 : decode cX4_fills 64 = .ok (.iload_n 3, 1) := by decide +kernel
theorem dX4_fills_65 : decode cX4_fills 65 = .ok (.iload_n 2, 1) := by decide +kernel
theorem dX4_fills_66 : decode cX4_fills 66 = .ok (.aload_n 0, 1) := by decide +kernel
theorem dX4_fills_67 : decode cX4_fills 67 = .ok (.getfield 7, 3) := by decide +kernel
theorem dX4_fills_70 : decode cX4_fills 70 = .ok (.iload_n 3, 1) := by decide +kernel
theorem dX4_fills_71 : decode cX4_fills 71 = .ok (.iaload, 1) := by decide +kernel
theorem dX4_fills_72 : decode cX4_fills 72 = .ok (.if_icmp .ge 7, 3) := by decide +kernel
theorem dX4_fills_75 : decode cX4_fills 75 = .ok (.iload_n 2, 1) := by decide +kernel
theorem dX4_fills_76 : decode cX4_fills 76 = .ok (.goto 9, 3) := by decide +kernel
theorem dX4_fills_79 : decode cX4_fills 79 = .ok (.aload_n 0, 1) := by decide +kernel
theorem dX4_fills_80 : decode cX4_fills 80 = .ok (.getfield 7, 3) := by decide +kernel
theorem dX4_fills_83 : decode cX4_fills 83 = .ok (.iload_n 3, 1) := by decide +kernel
theorem dX4_fills_84 : decode cX4_fills 84 = .ok (.iaload, 1) := by decide +kernel
theorem dX4_fills_85 : decode cX4_fills 85 = .ok (.iastore, 1) := by decide +kernel
theorem dX4_fills_86 : decode cX4_fills 86 = .ok (.iload_n 2, 1) := by decide +kernel
theorem dX4_fills_87 : decode cX4_fills 87 = .ok (.aload_n 0, 1) := by decide +kernel
theorem dX4_fills_88 : decode cX4_fills 88 = .ok (.getfield 62, 3) := by decide +kernel
theorem dX4_fills_91 : decode cX4_fills 91 = .ok (.iload_n 3, 1) := by decide +kernel
theorem dX4_fills_92 : decode cX4_fills 92 = .ok (.iaload, 1) := by decide +kernel
theorem dX4_fills_93 : decode cX4_fills 93 = .ok (.isub, 1) := by decide +kernel
theorem dX4_fills_94 : decode cX4_fills 94 = .ok (.istore_n 2, 1) := by decide +kernel
theorem dX4_fills_95 : decode cX4_fills 95 = .ok (.iinc 3 1, 3) := by decide +kernel
theorem dX4_fills_98 : decode cX4_fills 98 = .ok (.goto (-56), 3) := by decide +kernel
theorem dX4_fills_101 : decode cX4_fills 101 = .ok (.iinc 1 1, 3) := by decide +kernel
theorem dX4_fills_104 : decode cX4_fills 104 = .ok (.goto (-79), 3) := by decide +kernel
theorem dX4_fills_107 : decode cX4_fills 107 = .ok (.return_, 1) := by decide +kernel
theorem dX4_listOf_0 : decode cX4_listOf 0 = .ok (.iconst 0, 1) := by decide +kernel
theorem dX4_listOf_1 : decode cX4_listOf 1 = .ok (.istore_n 1, 1) := by decide +kernel
theorem dX4_listOf_2 : decode cX4_listOf 2 = .ok (.iconst 0, 1) := by decide +kernel
theorem dX4_listOf_3 : decode cX4_listOf 3 = .ok (.istore_n 2, 1) := by decide +kernel
theorem dX4_listOf_4 : decode cX4_listOf 4 = .ok (.iload_n 2, 1) := by decide +kernel
theorem dX4_listOf_5 : decode cX4_listOf 5 = .ok (.aload_n 0, 1) := by decide +kernel
theorem dX4_listOf_6 : decode cX4_listOf 6 = .ok (.getfield 75, 3) := by decide +kernel
theorem dX4_listOf_9 : decode cX4_listOf 9 = .ok (.if_icmp .ge 25, 3) := by decide +kernel
theorem dX4_listOf_12 : decode cX4_listOf 12 = .ok (.iload_n 1, 1) := by decide +kernel
theorem dX4_listOf_13 : decode cX4_listOf 13 = .ok (.aload_n 0, 1) := by decide +kernel
theorem dX4_listOf_14 : decode cX4_listOf 14 = .ok (.getfield 62, 3) := by decide +kernel
theorem dX4_listOf_17 : decode cX4_listOf 17 = .ok (.iload_n 2, 1) := by decide +kernel
theorem dX4_listOf_18 : decode cX4_listOf 18 = .ok (.iaload, 1) := by decide +kernel
theorem dX4_listOf_19 : decode cX4_listOf 19 = .ok (.aload_n 0, 1) := by decide +kernel
theorem dX4_listOf_20 : decode cX4_listOf 20 = .ok (.getfield 16, 3) := by decide +kernel
theorem dX4_listOf_23 : decode cX4_listOf 23 = .ok (.iload_n 2, 1) := by decide +kernel
theorem dX4_listOf_24 : decode cX4_listOf 24 = .ok (.iaload, 1) := by decide +kernel
theorem dX4_listOf_25 : decode cX4_listOf 25 = .ok (.imul, 1) := by decide +kernel
theorem dX4_listOf_26 : decode cX4_listOf 26 = .ok (.iadd, 1) := by decide +kernel
theorem dX4_listOf_27 : decode cX4_listOf 27 = .ok (.istore_n 1, 1) := by decide +kernel
theorem dX4_listOf_28 : decode cX4_listOf 28 = .ok (.iinc 2 1, 3) := by decide +kernel
theorem dX4_listOf_31 : decode cX4_listOf 31 = .ok (.goto (-27), 3) := by decide +kernel
theorem dX4_listOf_34 : decode cX4_listOf 34 = .ok (.iload_n 1, 1) := by decide +kernel
theorem dX4_listOf_35 : decode cX4_listOf 35 = .ok (.ireturn, 1) := by decide +kernel
theorem dX4_hasOther_0 : decode cX4_hasOther 0 = .ok (.iconst 0, 1) := by decide +kernel
theorem dX4_hasOther_1 : decode cX4_hasOther 1 = .ok (.istore_n 2, 1) := by decide +kernel
theorem dX4_hasOther_2 : decode cX4_hasOther 2 = .ok (.iconst 0, 1) := by decide +kernel
theorem dX4_hasOther_3 : decode cX4_hasOther 3 = .ok (.istore_n 3, 1) := by decide +kernel
theorem dX4_hasOther_4 : decode cX4_hasOther 4 = .ok (.iload_n 3, 1) := by decide +kernel
theorem dX4_hasOther_5 : decode cX4_hasOther 5 = .ok (.aload_n 0, 1) := by decide +kernel
theorem dX4_hasOther_6 : decode cX4_hasOther 6 = .ok (.getfield 75, 3) := by decide +kernel
theorem dX4_hasOther_9 : decode cX4_hasOther 9 = .ok (.if_icmp .ge 43, 3) := by decide +kernel
theorem dX4_hasOther_12 : decode cX4_hasOther 12 = .ok (.iload_n 2, 1) := by decide +kernel
theorem dX4_hasOther_13 : decode cX4_hasOther 13 = .ok (.ifCond .ne 27, 3) := by decide +kernel
theorem dX4_hasOther_16 : decode cX4_hasOther 16 = .ok (.aload_n 0, 1) := by decide +kernel
theorem dX4_hasOther_17 : decode cX4_hasOther 17 = .ok (.getfield 59, 3) := by decide +kernel
theorem dX4_hasOther_20 : decode cX4_hasOther 20 = .ok (.iload_n 3, 1) := by decide +kernel
theorem dX4_hasOther_21 : decode cX4_hasOther 21 = .ok (.iaload, 1) := by decide +kernel
theorem dX4_hasOther_22 : decode cX4_hasOther 22 = .ok (.bipush (-9), 2) := by decide +kernel
theorem dX4_hasOther_24 : decode cX4_hasOther 24 = .ok (.if_icmp .eq 20, 3) := by decide +kernel
theorem dX4_hasOther_27 : decode cX4_hasOther 27 = .ok (.iload_n 1, 1) := by decide +kernel
theorem dX4_hasOther_28 : decode cX4_hasOther 28 = .ok (.aload_n 0, 1) := by decide +kernel
theorem dX4_hasOther_29 : decode cX4_hasOther 29 = .ok (.getfield 59, 3) := by decide +kernel
theorem dX4_hasOther_32 : decode cX4_hasOther 32 = .ok (.iload_n 3, 1) := by decide +kernel
theorem dX4_hasOther_33 : decode cX4_hasOther 33 = .ok (.iaload, 1) := by decide +kernel
theorem dX4_hasOther_34 : decode cX4_hasOther 34 = .ok (.invokestatic 86, 3) := by decide +kernel
theorem dX4_hasOther_37 : decode cX4_hasOther 37 = .ok (.ifCond .ne 7, 3) := by decide +kernel
theorem dX4_hasOther_40 : decode cX4_hasOther 40 = .ok (.iconst 1, 1) := by decide +kernel
theorem dX4_hasOther_41 : decode cX4_hasOther 41 = .ok (.goto 4, 3) := by decide +kernel
theorem dX4_hasOther_44 : decode cX4_hasOther 44 = .ok (.iconst 0, 1) := by decide +kernel
theorem dX4_hasOther_45 : decode cX4_hasOther 45 = .ok (.istore_n 2, 1) := by decide +kernel
theorem dX4_hasOther_46 : decode cX4_hasOther 46 = .ok (.iinc 3 1, 3) := by decide +kernel
theorem dX4_hasOther_49 : decode cX4_hasOther 49 = .ok (.goto (-45), 3) := by decide +kernel
theorem dX4_hasOther_52 : decode cX4_hasOther 52 = .ok (.iload_n 2, 1) := by decide +kernel
theorem dX4_hasOther_53 : decode cX4_hasOther 53 = .ok (.ireturn, 1) := by decide +kernel
theorem dX4_hasUnfit_0 : decode cX4_hasUnfit 0 = .ok (.iconst 0, 1) := by decide +kernel
theorem dX4_hasUnfit_1 : decode cX4_hasUnfit 1 = .ok (.istore_n 1, 1) := by decide +kernel
theorem dX4_hasUnfit_2 : decode cX4_hasUnfit 2 = .ok (.iconst 0, 1) := by decide +kernel
theorem dX4_hasUnfit_3 : decode cX4_hasUnfit 3 = .ok (.istore_n 2, 1) := by decide +kernel
end
section
theorem dX4_hasUnfit_4 : decode cX4_hasUnfit 4 = .ok (.iload_n 2, 1) := by decide +kernel
theorem dX4_hasUnfit_5 : decode cX4_hasUnfit 5 = .ok (.aload_n 0, 1) := by decide +kernel
theorem dX4_hasUnfit_6 : decode cX4_hasUnfit 6 = .ok (.getfield 75, 3) := by decide +kernel
theorem dX4_hasUnfit_9 : decode cX4_hasUnfit 9 = .ok (.if_icmp .ge 44, 3) := by decide +kernel
theorem dX4_hasUnfit_12 : decode cX4_hasUnfit 12 = .ok (.iload_n 1, 1) := by decide +kernel
theorem dX4_hasUnfit_13 : decode cX4_hasUnfit 13 = .ok (.ifCond .ne 28, 3) := by decide +kernel
theorem dX4_hasUnfit_16 : decode cX4_hasUnfit 16 = .ok (.aload_n 0, 1) := by decide +kernel
theorem dX4_hasUnfit_17 : decode cX4_hasUnfit 17 = .ok (.getfield 59, 3) := by decide +kernel
theorem dX4_hasUnfit_20 : decode cX4_hasUnfit 20 = .ok (.iload_n 2, 1) := by decide +kernel
theorem dX4_hasUnfit_21 : decode cX4_hasUnfit 21 = .ok (.iaload, 1) := by decide +kernel
theorem dX4_hasUnfit_22 : decode cX4_hasUnfit 22 = .ok (.bipush (-9), 2) := by decide +kernel
theorem dX4_hasUnfit_24 : decode cX4_hasUnfit 24 = .ok (.if_icmp .eq 21, 3) := by decide +kernel
theorem dX4_hasUnfit_27 : decode cX4_hasUnfit 27 = .ok (.aload_n 0, 1) := by decide +kernel
theorem dX4_hasUnfit_28 : decode cX4_hasUnfit 28 = .ok (.iload_n 2, 1) := by decide +kernel
theorem dX4_hasUnfit_29 : decode cX4_hasUnfit 29 = .ok (.aload_n 0, 1) := by decide +kernel
theorem dX4_hasUnfit_30 : decode cX4_hasUnfit 30 = .ok (.getfield 59, 3) := by decide +kernel
theorem dX4_hasUnfit_33 : decode cX4_hasUnfit 33 = .ok (.iload_n 2, 1) := by decide +kernel
theorem dX4_hasUnfit_34 : decode cX4_hasUnfit 34 = .ok (.iaload, 1) := by decide +kernel
theorem dX4_hasUnfit_35 : decode cX4_hasUnfit 35 = .ok (.invokevirtual 108, 3) := by decide +kernel
theorem dX4_hasUnfit_38 : decode cX4_hasUnfit 38 = .ok (.ifCond .eq 7, 3) := by decide +kernel
theorem dX4_hasUnfit_41 : decode cX4_hasUnfit 41 = .ok (.iconst 1, 1) := by decide +kernel
theorem dX4_hasUnfit_42 : decode cX4_hasUnfit 42 = .ok (.goto 4, 3) := by decide +kernel
theorem dX4_hasUnfit_45 : decode cX4_hasUnfit 45 = .ok (.iconst 0, 1) := by decide +kernel
theorem dX4_hasUnfit_46 : decode cX4_hasUnfit 46 = .ok (.istore_n 1, 1) := by decide +kernel
theorem dX4_hasUnfit_47 : decode cX4_hasUnfit 47 = .ok (.iinc 2 1, 3) := by decide +kernel
theorem dX4_hasUnfit_50 : decode cX4_hasUnfit 50 = .ok (.goto (-46), 3) := by decide +kernel
theorem dX4_hasUnfit_53 : decode cX4_hasUnfit 53 = .ok (.iload_n 1, 1) := by decide +kernel
theorem dX4_hasUnfit_54 : decode cX4_hasUnfit 54 = .ok (.ireturn, 1) := by decide +kernel
theorem dX4_hasClash_0 : decode cX4_hasClash 0 = .ok (.iconst 0, 1) := by decide +kernel
theorem dX4_hasClash_1 : decode cX4_hasClash 1 = .ok (.istore_n 1, 1) := by decide +kernel
theorem dX4_hasClash_2 : decode cX4_hasClash 2 = .ok (.iconst 0, 1) := by decide +kernel
theorem dX4_hasClash_3 : decode cX4_hasClash 3 = .ok (.istore_n 2, 1) := by decide +kernel
theorem dX4_hasClash_4 : decode cX4_hasClash 4 = .ok (.iload_n 2, 1) := by decide +kernel
theorem dX4_hasClash_5 : decode cX4_hasClash 5 = .ok (.aload_n 0, 1) := by decide +kernel
theorem dX4_hasClash_6 : decode cX4_hasClash 6 = .ok (.getfield 75, 3) := by decide +kernel
theorem dX4_hasClash_9 : decode cX4_hasClash 9 = .ok (.if_icmp .ge 86, 3) := by decide +kernel
theorem dX4_hasClash_12 : decode cX4_hasClash 12 = .ok (.iconst 0, 1) := by decide +kernel
theorem dX4_hasClash_13 : decode cX4_hasClash 13 = .ok (.istore_n 3, 1) := by decide +kernel
theorem dX4_hasClash_14 : decode cX4_hasClash 14 = .ok (.iload_n 3, 1) := by decide +kernel
theorem dX4_hasClash_15 : decode cX4_hasClash 15 = .ok (.iload_n 2, 1) := by decide +kernel
theorem dX4_hasClash_16 : decode cX4_hasClash 16 = .ok (.if_icmp .ge 73, 3) := by decide +kernel
theorem dX4_hasClash_19 : decode cX4_hasClash 19 = .ok (.iload_n 1, 1) := by decide +kernel
theorem dX4_hasClash_20 : decode cX4_hasClash 20 = .ok (.ifCond .ne 57, 3) := by decide +kernel
theorem dX4_hasClash_23 : decode cX4_hasClash 23 = .ok (.aload_n 0, 1) := by decide +kernel
theorem dX4_hasClash_24 : decode cX4_hasClash 24 = .ok (.getfield 19, 3) := by decide +kernel
theorem dX4_hasClash_27 : decode cX4_hasClash 27 = .ok (.iload_n 2, 1) := by decide +kernel
theorem dX4_hasClash_28 : decode cX4_hasClash 28 = .ok (.iaload, 1) := by decide +kernel
theorem dX4_hasClash_29 : decode cX4_hasClash 29 = .ok (.iload_n 3, 1) := by decide +kernel
theorem dX4_hasClash_30 : decode cX4_hasClash 30 = .ok (.invokestatic 86, 3) := by decide +kernel
theorem dX4_hasClash_33 : decode cX4_hasClash 33 = .ok (.ifCond .eq 48, 3) := by decide +kernel
theorem dX4_hasClash_36 : decode cX4_hasClash 36 = .ok (.aload_n 0, 1) := by decide +kernel
theorem dX4_hasClash_37 : decode cX4_hasClash 37 = .ok (.getfield 59, 3) := by decide +kernel
theorem dX4_hasClash_40 : decode cX4_hasClash 40 = .ok (.iload_n 2, 1) := by decide +kernel
theorem dX4_hasClash_41 : decode cX4_hasClash 41 = .ok (.iaload, 1) := by decide +kernel
theorem dX4_hasClash_42 : decode cX4_hasClash 42 = .ok (.bipush (-9), 2) := by decide +kernel
theorem dX4_hasClash_44 : decode cX4_hasClash 44 = .ok (.if_icmp .eq 37, 3) := by decide +kernel
theorem dX4_hasClash_47 : decode cX4_hasClash 47 = .ok (.aload_n 0, 1) := by decide +kernel
theorem dX4_hasClash_48 : decode cX4_hasClash 48 = .ok (.getfield 59, 3) := by decide +kernel
theorem dX4_hasClash_51 : decode cX4_hasClash 51 = .ok (.iload_n 3, 1) := by decide +kernel
theorem dX4_hasClash_52 : decode cX4_hasClash 52 = .ok (.iaload, 1) := by decide +kernel
theorem dX4_hasClash_53 : decode cX4_hasClash 53 = .ok (.bipush (-9), 2) := by decide +kernel
theorem dX4_hasClash_55 : decode cX4_hasClash 55 = .ok (.if_icmp .eq 26, 3) := by decide +kernel
theorem dX4_hasClash_58 : decode cX4_hasClash 58 = .ok (.aload_n 0, 1) := by decide +kernel
theorem dX4_hasClash_59 : decode cX4_hasClash 59 = .ok (.aload_n 0, 1) := by decide +kernel
theorem dX4_hasClash_60 : decode cX4_hasClash 60 = .ok (.getfield 59, 3) := by decide +kernel
theorem dX4_hasClash_63 : decode cX4_hasClash 63 = .ok (.iload_n 2, 1) := by decide +kernel
theorem dX4_hasClash_64 : decode cX4_hasClash 64 = .ok (.iaload, 1) := by decide +kernel
theorem dX4_hasClash_65 : decode cX4_hasClash 65 = .ok (.aload_n 0, 1) := by decide +kernel
theorem dX4_hasClash_66 : decode cX4_hasClash 66 = .ok (.getfield 59, 3) := by decide +kernel
theorem dX4_hasClash_69 : decode cX4_hasClash 69 = .ok (.iload_n 3, 1) := by decide +kernel
theorem dX4_hasClash_70 : decode cX4_hasClash 70 = .ok (.iaload, 1) := by decide +kernel
theorem dX4_hasClash_71 : decode cX4_hasClash 71 = .ok (.invokevirtual 105, 3) := by decide +kernel
theorem dX4_hasClash_74 : decode cX4_hasClash 74 = .ok (.ifCond .eq 7, 3) := by decide +kernel
theorem dX4_hasClash_77 : decode cX4_hasClash 77 = .ok (.iconst 1, 1) := by decide +kernel
theorem dX4_hasClash_78 : decode cX4_hasClash 78 = .ok (.goto 4, 3) := by decide +kernel
theorem dX4_hasClash_81 : decode cX4_hasClash 81 = .ok (.iconst 0, 1) := by decide +kernel
theorem dX4_hasClash_82 : decode cX4_hasClash 82 = .ok (.istore_n 1, 1) := by decide +kernel
theorem dX4_hasClash_83 : decode cX4_hasClash 83 = .ok (.iinc 3 1, 3) := by decide +kernel
theorem dX4_hasClash_86 : decode cX4_hasClash 86 = .ok (.goto (-72), 3) := by decide +kernel
theorem dX4_hasClash_89 : decode cX4_hasClash 89 = .ok (.iinc 2 1, 3) := by decide +kernel
theorem dX4_hasClash_92 : decode cX4_hasClash 92 = .ok (.goto (-88), 3) := by decide +kernel
theorem dX4_hasClash_95 : decode cX4_hasClash 95 = .ok (.iload_n 1, 1) := by decide +kernel
theorem dX4_hasClash_96 : decode cX4_hasClash 96 = .ok (.ireturn, 1) := by decide +kernel
theorem dX4_hasTooMuch_0 : decode cX4_hasTooMuch 0 = .ok (.iconst 0, 1) := by decide +kernel
theorem dX4_hasTooMuch_1 : decode cX4_hasTooMuch 1 = .ok (.istore_n 2, 1) := by decide +kernel
theorem dX4_hasTooMuch_2 : decode cX4_hasTooMuch 2 = .ok (.iconst 0, 1) := by decide +kernel
theorem dX4_hasTooMuch_3 : decode cX4_hasTooMuch 3 = .ok (.istore_n 3, 1) := by decide +kernel
theorem dX4_hasTooMuch_4 : decode cX4_hasTooMuch 4 = .ok (.iload_n 3, 1) := by decide +kernel
theorem dX4_hasTooMuch_5 : decode cX4_hasTooMuch 5 = .ok (.aload_n 0, 1) := by decide +kernel
theorem dX4_hasTooMuch_6 : decode cX4_hasTooMuch 6 = .ok (.getfield 92, 3) := by decide +kernel
theorem dX4_hasTooMuch_9 : decode cX4_hasTooMuch 9 = .ok (.if_icmp .ge 86, 3) := by decide +kernel
theorem dX4_hasTooMuch_12 : decode cX4_hasTooMuch 12 = .ok (.iconst 0, 1) := by decide +kernel
theorem dX4_hasTooMuch_13 : decode cX4_hasTooMuch 13 = .ok (.istore 4, 2) := by decide +kernel
theorem dX4_hasTooMuch_15 : decode cX4_hasTooMuch 15 = .ok (.iconst 0, 1) := by decide +kernel
theorem dX4_hasTooMuch_16 : decode cX4_hasTooMuch 16 = .ok (.istore 5, 2) := by decide +kernel
theorem dX4_hasTooMuch_18 : decode cX4_hasTooMuch 18 = .ok (.iload 5, 2) := by decide +kernel
theorem dX4_hasTooMuch_20 : decode cX4_hasTooMuch 20 = .ok (.aload_n 0, 1) := by decide +kernel
theorem dX4_hasTooMuch_21 : decode cX4_hasTooMuch 21 = .ok (.getfield 75, 3) := by decide +kernel
theorem dX4_hasTooMuch_24 : decode cX4_hasTooMuch 24 = .ok (.if_icmp .ge 36, 3) := by decide +kernel
theorem dX4_hasTooMuch_27 : decode cX4_hasTooMuch 27 = .ok (.iload 4, 2) := by decide +kernel
theorem dX4_hasTooMuch_29 : decode cX4_hasTooMuch 29 = .ok (.aload_n 0, 1) := by decide +kernel
theorem dX4_hasTooMuch_30 : decode cX4_hasTooMuch 30 = .ok (.getfield 59, 3) := by decide +kernel
theorem dX4_hasTooMuch_33 : decode cX4_hasTooMuch 33 = .ok (.iload 5, 2) := by decide +kernel
theorem dX4_hasTooMuch_35 : decode cX4_hasTooMuch 35 = .ok (.iaload, 1) := by decide +kernel
theorem dX4_hasTooMuch_36 : decode cX4_hasTooMuch 36 = .ok (.iload_n 3, 1) := by decide +kernel
theorem dX4_hasTooMuch_37 : decode cX4_hasTooMuch 37 = .ok (.if_icmp .ne 13, 3) := by decide +kernel
theorem dX4_hasTooMuch_40 : decode cX4_hasTooMuch 40 = .ok (.aload_n 0, 1) := by decide +kernel
theorem dX4_hasTooMuch_41 : decode cX4_hasTooMuch 41 = .ok (.getfield 7, 3) := by decide +kernel
theorem dX4_hasTooMuch_44 : decode cX4_hasTooMuch 44 = .ok (.iload 5, 2) := by decide +kernel
theorem dX4_hasTooMuch_46 : decode cX4_hasTooMuch 46 = .ok (.iaload, 1) := by decide +kernel
theorem dX4_hasTooMuch_47 : decode cX4_hasTooMuch 47 = .ok (.goto 4, 3) := by decide +kernel
theorem dX4_hasTooMuch_50 : decode cX4_hasTooMuch 50 = .ok (.iconst 0, 1) := by decide +kernel
theorem dX4_hasTooMuch_51 : decode cX4_hasTooMuch 51 = .ok (.iadd, 1) := by decide +kernel
theorem dX4_hasTooMuch_52 : decode cX4_hasTooMuch 52 = .ok (.istore 4, 2) := by decide +kernel
theorem dX4_hasTooMuch_54 : decode cX4_hasTooMuch 54 = .ok (.iinc 5 1, 3) := by decide +kernel
theorem dX4_hasTooMuch_57 : decode cX4_hasTooMuch 57 = .ok (.goto (-39), 3) := by decide +kernel
theorem dX4_hasTooMuch_60 : decode cX4_hasTooMuch 60 = .ok (.iload_n 2, 1) := by decide +kernel
theorem dX4_hasTooMuch_61 : decode cX4_hasTooMuch 61 = .ok (.ifCond .ne 22, 3) := by decide +kernel
theorem dX4_hasTooMuch_64 : decode cX4_hasTooMuch 64 = .ok (.iload_n 1, 1) := by decide +kernel
theorem dX4_hasTooMuch_65 : decode cX4_hasTooMuch 65 = .ok (.iload_n 3, 1) := by decide +kernel
theorem dX4_hasTooMuch_66 : decode cX4_hasTooMuch 66 = .ok (.invokestatic 86, 3) := by decide +kernel
theorem dX4_hasTooMuch_69 : decode cX4_hasTooMuch 69 = .ok (.ifCond .eq 18, 3) := by decide +kernel
theorem dX4_hasTooMuch_72 : decode cX4_hasTooMuch 72 = .ok (.iload 4, 2) := by decide +kernel
theorem dX4_hasTooMuch_74 : decode cX4_hasTooMuch 74 = .ok (.aload_n 0, 1) := by decide +kernel
theorem dX4_hasTooMuch_75 : decode cX4_hasTooMuch 75 = .ok (.getfield 37, 3) := by decide +kernel
theorem dX4_hasTooMuch_78 : decode cX4_hasTooMuch 78 = .ok (.iload_n 3, 1) := by decide +kernel
theorem dX4_hasTooMuch_79 : decode cX4_hasTooMuch 79 = .ok (.iaload, 1) := by decide +kernel
theorem dX4_hasTooMuch_80 : decode cX4_hasTooMuch 80 = .ok (.if_icmp .ge 7, 3) := by decide +kernel
theorem dX4_hasTooMuch_83 : decode cX4_hasTooMuch 83 = .ok (.iconst 1, 1) := by decide +kernel
theorem dX4_hasTooMuch_84 : decode cX4_hasTooMuch 84 = .ok (.goto 4, 3) := by decide +kernel
theorem dX4_hasTooMuch_87 : decode cX4_hasTooMuch 87 = .ok (.iconst 0, 1) := by decide +kernel
theorem dX4_hasTooMuch_88 : decode cX4_hasTooMuch 88 = .ok (.istore_n 2, 1) := by decide +kernel
theorem dX4_hasTooMuch_89 : decode cX4_hasTooMuch 89 = .ok (.iinc 3 1, 3) := by decide +kernel
theorem dX4_hasTooMuch_92 : decode cX4_hasTooMuch 92 = .ok (.goto (-88), 3) := by decide +kernel
theorem dX4_hasTooMuch_95 : decode cX4_hasTooMuch 95 = .ok (.iload_n 2, 1) := by decide +kernel
theorem dX4_hasTooMuch_96 : decode cX4_hasTooMuch 96 = .ok (.ireturn, 1) := by decide +kernel
theorem dX4_hasEmpty_0 : decode cX4_hasEmpty 0 = .ok (.iconst 0, 1) := by decide +kernel
theorem dX4_hasEmpty_1 : decode cX4_hasEmpty 1 = .ok (.istore_n 1, 1) := by decide +kernel
theorem dX4_hasEmpty_2 : decode cX4_hasEmpty 2 = .ok (.iconst 0, 1) := by decide +kernel
theorem dX4_hasEmpty_3 : decode cX4_hasEmpty 3 = .ok (.istore_n 2, 1) := by decide +kernel
theorem dX4_hasEmpty_4 : decode cX4_hasEmpty 4 = .ok (.iload_n 2, 1) := by decide +kernel
theorem dX4_hasEmpty_5 : decode cX4_hasEmpty 5 = .ok (.aload_n 0, 1) := by decide +kernel
theorem dX4_hasEmpty_6 : decode cX4_hasEmpty 6 = .ok (.getfield 75, 3) := by decide +kernel
theorem dX4_hasEmpty_9 : decode cX4_hasEmpty 9 = .ok (.if_icmp .ge 39, 3) := by decide +kernel
theorem dX4_hasEmpty_12 : decode cX4_hasEmpty 12 = .ok (.iload_n 1, 1) := by decide +kernel
theorem dX4_hasEmpty_13 : decode cX4_hasEmpty 13 = .ok (.ifCond .ne 23, 3) := by decide +kernel
theorem dX4_hasEmpty_16 : decode cX4_hasEmpty 16 = .ok (.aload_n 0, 1) := by decide +kernel
theorem dX4_hasEmpty_17 : decode cX4_hasEmpty 17 = .ok (.getfield 59, 3) := by decide +kernel
theorem dX4_hasEmpty_20 : decode cX4_hasEmpty 20 = .ok (.iload_n 2, 1) := by decide +kernel
theorem dX4_hasEmpty_21 : decode cX4_hasEmpty 21 = .ok (.iaload, 1) := by decide +kernel
theorem dX4_hasEmpty_22 : decode cX4_hasEmpty 22 = .ok (.bipush (-9), 2) := by decide +kernel
theorem dX4_hasEmpty_24 : decode cX4_hasEmpty 24 = .ok (.if_icmp .eq 16, 3) := by decide +kernel
theorem dX4_hasEmpty_27 : decode cX4_hasEmpty 27 = .ok (.aload_n 0, 1) := by decide +kernel
theorem dX4_hasEmpty_28 : decode cX4_hasEmpty 28 = .ok (.getfield 62, 3) := by decide +kernel
theorem dX4_hasEmpty_31 : decode cX4_hasEmpty 31 = .ok (.iload_n 2, 1) := by decide +kernel
theorem dX4_hasEmpty_32 : decode cX4_hasEmpty 32 = .ok (.iaload, 1) := by decide +kernel
theorem dX4_hasEmpty_33 : decode cX4_hasEmpty 33 = .ok (.ifCond .ne 7, 3) := by decide +kernel
theorem dX4_hasEmpty_36 : decode cX4_hasEmpty 36 = .ok (.iconst 1, 1) := by decide +kernel
theorem dX4_hasEmpty_37 : decode cX4_hasEmpty 37 = .ok (.goto 4, 3) := by decide +kernel
theorem dX4_hasEmpty_40 : decode cX4_hasEmpty 40 = .ok (.iconst 0, 1) := by decide +kernel
theorem dX4_hasEmpty_41 : decode cX4_hasEmpty 41 = .ok (.istore_n 1, 1) := by decide +kernel
theorem dX4_hasEmpty_42 : decode cX4_hasEmpty 42 = .ok (.iinc 2 1, 3) := by decide +kernel
theorem dX4_hasEmpty_45 : decode cX4_hasEmpty 45 = .ok (.goto (-41), 3) := by decide +kernel
theorem dX4_hasEmpty_48 : decode cX4_hasEmpty 48 = .ok (.iload_n 1, 1) := by decide +kernel
theorem dX4_hasEmpty_49 : decode cX4_hasEmpty 49 = .ok (.ireturn, 1) := by decide +kernel
theorem dX4_brokenBy_0 : decode cX4_brokenBy 0 = .ok (.aload_n 0, 1) := by decide +kernel
theorem dX4_brokenBy_1 : decode cX4_brokenBy 1 = .ok (.iload_n 1, 1) := by decide +kernel
theorem dX4_brokenBy_2 : decode cX4_brokenBy 2 = .ok (.invokevirtual 121, 3) := by decide +kernel
theorem dX4_brokenBy_5 : decode cX4_brokenBy 5 = .ok (.ifCond .eq 5, 3) := by decide +kernel
theorem dX4_brokenBy_8 : decode cX4_brokenBy 8 = .ok (.iconst 1, 1) := by decide +kernel
theorem dX4_brokenBy_9 : decode cX4_brokenBy 9 = .ok (.ireturn, 1) := by decide +kernel
theorem dX4_brokenBy_10 : decode cX4_brokenBy 10 = .ok (.aload_n 0, 1) := by decide +kernel
theorem dX4_brokenBy_11 : decode cX4_brokenBy 11 = .ok (.invokevirtual 124, 3) := by decide +kernel
theorem dX4_brokenBy_14 : decode cX4_brokenBy 14 = .ok (.ifCond .eq 5, 3) := by decide +kernel
theorem dX4_brokenBy_17 : decode cX4_brokenBy 17 = .ok (.iconst 2, 1) := by decide +kernel
theorem dX4_brokenBy_18 : decode cX4_brokenBy 18 = .ok (.ireturn, 1) := by decide +kernel
theorem dX4_brokenBy_19 : decode cX4_brokenBy 19 = .ok (.aload_n 0, 1) := by decide +kernel
theorem dX4_brokenBy_20 : decode cX4_brokenBy 20 = .ok (.invokevirtual 128, 3) := by decide +kernel
theorem dX4_brokenBy_23 : decode cX4_brokenBy 23 = .ok (.ifCond .eq 5, 3) := by decide +kernel
theorem dX4_brokenBy_26 : decode cX4_brokenBy 26 = .ok (.iconst 3, 1) := by decide +kernel
theorem dX4_brokenBy_27 : decode cX4_brokenBy 27 = .ok (.ireturn, 1) := by decide +kernel
theorem dX4_brokenBy_28 : decode cX4_brokenBy 28 = .ok (.aload_n 0, 1) := by decide +kernel
theorem dX4_brokenBy_29 : decode cX4_brokenBy 29 = .ok (.iload_n 1, 1) := by decide +kernel
theorem dX4_brokenBy_30 : decode cX4_brokenBy 30 = .ok (.invokevirtual 131, 3) := by decide +kernel
theorem dX4_brokenBy_33 : decode cX4_brokenBy 33 = .ok (.ifCond .eq 5, 3) := by decide +kernel
theorem dX4_brokenBy_36 : decode cX4_brokenBy 36 = .ok (.iconst 4, 1) := by decide +kernel
theorem dX4_brokenBy_37 : decode cX4_brokenBy 37 = .ok (.ireturn, 1) := by decide +kernel
theorem dX4_brokenBy_38 : decode cX4_brokenBy 38 = .ok (.aload_n 0, 1) := by decide +kernel
theorem dX4_brokenBy_39 : decode cX4_brokenBy 39 = .ok (.invokevirtual 134, 3) := by decide +kernel
theorem dX4_brokenBy_42 : decode cX4_brokenBy 42 = .ok (.aload_n 0, 1) := by decide +kernel
theorem dX4_brokenBy_43 : decode cX4_brokenBy 43 = .ok (.invokevirtual 137, 3) := by decide +kernel
theorem dX4_brokenBy_46 : decode cX4_brokenBy 46 = .ok (.ifCond .eq 5, 3) := by decide +kernel
theorem dX4_brokenBy_49 : decode cX4_brokenBy 49 = .ok (.iconst 5, 1) := by decide +kernel
theorem dX4_brokenBy_50 : decode cX4_brokenBy 50 = .ok (.ireturn, 1) := by decide +kernel
theorem dX4_brokenBy_51 : decode cX4_brokenBy 51 = .ok (.aload_n 0, 1) := by decide +kernel
theorem dX4_brokenBy_52 : decode cX4_brokenBy 52 = .ok (.invokevirtual 140, 3) := by decide +kernel
theorem dX4_brokenBy_55 : decode cX4_brokenBy 55 = .ok (.istore_n 2, 1) := by decide +kernel
theorem dX4_brokenBy_56 : decode cX4_brokenBy 56 = .ok (.iload_n 2, 1) := by decide +kernel
theorem dX4_brokenBy_57 : decode cX4_brokenBy 57 = .ok (.aload_n 0, 1) := by decide +kernel
theorem dX4_brokenBy_58 : decode cX4_brokenBy 58 = .ok (.getfield 55, 3) := by decide +kernel
theorem dX4_brokenBy_61 : decode cX4_brokenBy 61 = .ok (.if_icmp .gt 12, 3) := by decide +kernel
theorem dX4_brokenBy_64 : decode cX4_brokenBy 64 = .ok (.iload_n 2, 1) := by decide +kernel
theorem dX4_brokenBy_65 : decode cX4_brokenBy 65 = .ok (.ineg, 1) := by decide +kernel
theorem dX4_brokenBy_66 : decode cX4_brokenBy 66 = .ok (.aload_n 0, 1) := by decide +kernel
theorem dX4_brokenBy_67 : decode cX4_brokenBy 67 = .ok (.getfield 55, 3) := by decide +kernel
theorem dX4_brokenBy_70 : decode cX4_brokenBy 70 = .ok (.if_icmp .le 8, 3) := by decide +kernel
theorem dX4_brokenBy_73 : decode cX4_brokenBy 73 = .ok (.bipush 6, 2) := by decide +kernel
theorem dX4_brokenBy_75 : decode cX4_brokenBy 75 = .ok (.goto 4, 3) := by decide +kernel
theorem dX4_brokenBy_78 : decode cX4_brokenBy 78 = .ok (.iconst 0, 1) := by decide +kernel
theorem dX4_brokenBy_79 : decode cX4_brokenBy 79 = .ok (.ireturn, 1) := by decide +kernel
theorem dX4_broken_0 : decode cX4_broken 0 = .ok (.aload_n 0, 1) := by decide +kernel
theorem dX4_broken_1 : decode cX4_broken 1 = .ok (.iload_n 1, 1) := by decide +kernel
theorem dX4_broken_2 : decode cX4_broken 2 = .ok (.invokevirtual 144, 3) := by decide +kernel
theorem dX4_broken_5 : decode cX4_broken 5 = .ok (.ifCond .ne 6, 3) := by decide +kernel
theorem dX4_broken_8 : decode cX4_broken 8 = .ok (.bipush (-2), 2) := by decide +kernel
theorem dX4_broken_10 : decode cX4_broken 10 = .ok (.ireturn, 1) := by decide +kernel
theorem dX4_broken_11 : decode cX4_broken 11 = .ok (.aload_n 0, 1) := by decide +kernel
theorem dX4_broken_12 : decode cX4_broken 12 = .ok (.invokevirtual 147, 3) := by decide +kernel
theorem dX4_broken_15 : decode cX4_broken 15 = .ok (.aload_n 0, 1) := by decide +kernel
theorem dX4_broken_16 : decode cX4_broken 16 = .ok (.iload_n 1, 1) := by decide +kernel
theorem dX4_broken_17 : decode cX4_broken 17 = .ok (.invokevirtual 150, 3) := by decide +kernel
theorem dX4_broken_20 : decode cX4_broken 20 = .ok (.ireturn, 1) := by decide +kernel
theorem dX4_costOf_0 : decode cX4_costOf 0 = .ok (.iconst 0, 1) := by decide +kernel
theorem dX4_costOf_1 : decode cX4_costOf 1 = .ok (.istore_n 1, 1) := by decide +kernel
theorem dX4_costOf_2 : decode cX4_costOf 2 = .ok (.iconst 0, 1) := by decide +kernel
theorem dX4_costOf_3 : decode cX4_costOf 3 = .ok (.istore_n 2, 1) := by decide +kernel
theorem dX4_costOf_4 : decode cX4_costOf 4 = .ok (.iload_n 2, 1) := by decide +kernel
theorem dX4_costOf_5 : decode cX4_costOf 5 = .ok (.aload_n 0, 1) := by decide +kernel
theorem dX4_costOf_6 : decode cX4_costOf 6 = .ok (.getfield 75, 3) := by decide +kernel
theorem dX4_costOf_9 : decode cX4_costOf 9 = .ok (.if_icmp .ge 38, 3) := by decide +kernel
theorem dX4_costOf_12 : decode cX4_costOf 12 = .ok (.iload_n 1, 1) := by decide +kernel
theorem dX4_costOf_13 : decode cX4_costOf 13 = .ok (.aload_n 0, 1) := by decide +kernel
theorem dX4_costOf_14 : decode cX4_costOf 14 = .ok (.getfield 59, 3) := by decide +kernel
theorem dX4_costOf_17 : decode cX4_costOf 17 = .ok (.iload_n 2, 1) := by decide +kernel
theorem dX4_costOf_18 : decode cX4_costOf 18 = .ok (.iaload, 1) := by decide +kernel
theorem dX4_costOf_19 : decode cX4_costOf 19 = .ok (.bipush (-9), 2) := by decide +kernel
theorem dX4_costOf_21 : decode cX4_costOf 21 = .ok (.if_icmp .ne 7, 3) := by decide +kernel
theorem dX4_costOf_24 : decode cX4_costOf 24 = .ok (.iconst 0, 1) := by decide +kernel
theorem dX4_costOf_25 : decode cX4_costOf 25 = .ok (.goto 14, 3) := by decide +kernel
theorem dX4_costOf_28 : decode cX4_costOf 28 = .ok (.aload_n 0, 1) := by decide +kernel
theorem dX4_costOf_29 : decode cX4_costOf 29 = .ok (.iload_n 2, 1) := by decide +kernel
theorem dX4_costOf_30 : decode cX4_costOf 30 = .ok (.aload_n 0, 1) := by decide +kernel
theorem dX4_costOf_31 : decode cX4_costOf 31 = .ok (.getfield 59, 3) := by decide +kernel
theorem dX4_costOf_34 : decode cX4_costOf 34 = .ok (.iload_n 2, 1) := by decide +kernel
theorem dX4_costOf_35 : decode cX4_costOf 35 = .ok (.iaload, 1) := by decide +kernel
theorem dX4_costOf_36 : decode cX4_costOf 36 = .ok (.invokevirtual 118, 3) := by decide +kernel
theorem dX4_costOf_39 : decode cX4_costOf 39 = .ok (.iadd, 1) := by decide +kernel
theorem dX4_costOf_40 : decode cX4_costOf 40 = .ok (.istore_n 1, 1) := by decide +kernel
theorem dX4_costOf_41 : decode cX4_costOf 41 = .ok (.iinc 2 1, 3) := by decide +kernel
theorem dX4_costOf_44 : decode cX4_costOf 44 = .ok (.goto (-40), 3) := by decide +kernel
theorem dX4_costOf_47 : decode cX4_costOf 47 = .ok (.iload_n 1, 1) := by decide +kernel
theorem dX4_costOf_48 : decode cX4_costOf 48 = .ok (.ireturn, 1) := by decide +kernel
theorem dX4_usedOf_0 : decode cX4_usedOf 0 = .ok (.iconst 0, 1) := by decide +kernel
theorem dX4_usedOf_1 : decode cX4_usedOf 1 = .ok (.istore_n 1, 1) := by decide +kernel
theorem dX4_usedOf_2 : decode cX4_usedOf 2 = .ok (.iconst 0, 1) := by decide +kernel
theorem dX4_usedOf_3 : decode cX4_usedOf 3 = .ok (.istore_n 2, 1) := by decide +kernel
theorem dX4_usedOf_4 : decode cX4_usedOf 4 = .ok (.iload_n 2, 1) := by decide +kernel
theorem dX4_usedOf_5 : decode cX4_usedOf 5 = .ok (.aload_n 0, 1) := by decide +kernel
theorem dX4_usedOf_6 : decode cX4_usedOf 6 = .ok (.getfield 75, 3) := by decide +kernel
theorem dX4_usedOf_9 : decode cX4_usedOf 9 = .ok (.if_icmp .ge 28, 3) := by decide +kernel
theorem dX4_usedOf_12 : decode cX4_usedOf 12 = .ok (.iload_n 1, 1) := by decide +kernel
theorem dX4_usedOf_13 : decode cX4_usedOf 13 = .ok (.aload_n 0, 1) := by decide +kernel
theorem dX4_usedOf_14 : decode cX4_usedOf 14 = .ok (.getfield 59, 3) := by decide +kernel
theorem dX4_usedOf_17 : decode cX4_usedOf 17 = .ok (.iload_n 2, 1) := by decide +kernel
theorem dX4_usedOf_18 : decode cX4_usedOf 18 = .ok (.iaload, 1) := by decide +kernel
theorem dX4_usedOf_19 : decode cX4_usedOf 19 = .ok (.bipush (-9), 2) := by decide +kernel
theorem dX4_usedOf_21 : decode cX4_usedOf 21 = .ok (.if_icmp .ne 7, 3) := by decide +kernel
theorem dX4_usedOf_24 : decode cX4_usedOf 24 = .ok (.iconst 0, 1) := by decide +kernel
theorem dX4_usedOf_25 : decode cX4_usedOf 25 = .ok (.goto 4, 3) := by decide +kernel
theorem dX4_usedOf_28 : decode cX4_usedOf 28 = .ok (.iconst 1, 1) := by decide +kernel
theorem dX4_usedOf_29 : decode cX4_usedOf 29 = .ok (.iadd, 1) := by decide +kernel
theorem dX4_usedOf_30 : decode cX4_usedOf 30 = .ok (.istore_n 1, 1) := by decide +kernel
theorem dX4_usedOf_31 : decode cX4_usedOf 31 = .ok (.iinc 2 1, 3) := by decide +kernel
theorem dX4_usedOf_34 : decode cX4_usedOf 34 = .ok (.goto (-30), 3) := by decide +kernel
theorem dX4_usedOf_37 : decode cX4_usedOf 37 = .ok (.iload_n 1, 1) := by decide +kernel
theorem dX4_usedOf_38 : decode cX4_usedOf 38 = .ok (.ireturn, 1) := by decide +kernel
theorem dX4_ofPlan_0 : decode cX4_ofPlan 0 = .ok (.iload_n 1, 1) := by decide +kernel
theorem dX4_ofPlan_1 : decode cX4_ofPlan 1 = .ok (.iconst 0, 1) := by decide +kernel
theorem dX4_ofPlan_2 : decode cX4_ofPlan 2 = .ok (.iconst 2, 1) := by decide +kernel
theorem dX4_ofPlan_3 : decode cX4_ofPlan 3 = .ok (.invokestatic 71, 3) := by decide +kernel
theorem dX4_ofPlan_6 : decode cX4_ofPlan 6 = .ok (.ifCond .ne 6, 3) := by decide +kernel
theorem dX4_ofPlan_9 : decode cX4_ofPlan 9 = .ok (.bipush (-2), 2) := by decide +kernel
theorem dX4_ofPlan_11 : decode cX4_ofPlan 11 = .ok (.ireturn, 1) := by decide +kernel
theorem dX4_ofPlan_12 : decode cX4_ofPlan 12 = .ok (.aload_n 0, 1) := by decide +kernel
theorem dX4_ofPlan_13 : decode cX4_ofPlan 13 = .ok (.invokevirtual 147, 3) := by decide +kernel
theorem dX4_ofPlan_16 : decode cX4_ofPlan 16 = .ok (.aload_n 0, 1) := by decide +kernel
theorem dX4_ofPlan_17 : decode cX4_ofPlan 17 = .ok (.invokevirtual 134, 3) := by decide +kernel
theorem dX4_ofPlan_20 : decode cX4_ofPlan 20 = .ok (.iload_n 1, 1) := by decide +kernel
theorem dX4_ofPlan_21 : decode cX4_ofPlan 21 = .ok (.ifCond .ne 10, 3) := by decide +kernel
theorem dX4_ofPlan_24 : decode cX4_ofPlan 24 = .ok (.aload_n 0, 1) := by decide +kernel
theorem dX4_ofPlan_25 : decode cX4_ofPlan 25 = .ok (.invokevirtual 153, 3) := by decide +kernel
theorem dX4_ofPlan_28 : decode cX4_ofPlan 28 = .ok (.goto 22, 3) := by decide +kernel
theorem dX4_ofPlan_31 : decode cX4_ofPlan 31 = .ok (.iload_n 1, 1) := by decide +kernel
theorem dX4_ofPlan_32 : decode cX4_ofPlan 32 = .ok (.iconst 1, 1) := by decide +kernel
theorem dX4_ofPlan_33 : decode cX4_ofPlan 33 = .ok (.if_icmp .ne 10, 3) := by decide +kernel
theorem dX4_ofPlan_36 : decode cX4_ofPlan 36 = .ok (.aload_n 0, 1) := by decide +kernel
theorem dX4_ofPlan_37 : decode cX4_ofPlan 37 = .ok (.invokevirtual 156, 3) := by decide +kernel
theorem dX4_ofPlan_40 : decode cX4_ofPlan 40 = .ok (.goto 10, 3) := by decide +kernel
theorem dX4_ofPlan_43 : decode cX4_ofPlan 43 = .ok (.aload_n 0, 1) := by decide +kernel
theorem dX4_ofPlan_44 : decode cX4_ofPlan 44 = .ok (.invokevirtual 140, 3) := by decide +kernel
theorem dX4_ofPlan_47 : decode cX4_ofPlan 47 = .ok (.ldc 159, 2) := by decide +kernel
theorem dX4_ofPlan_49 : decode cX4_ofPlan 49 = .ok (.iadd, 1) := by decide +kernel
theorem dX4_ofPlan_50 : decode cX4_ofPlan 50 = .ok (.ireturn, 1) := by decide +kernel
theorem dX4_lays_0 : decode cX4_lays 0 = .ok (.iload_n 1, 1) := by decide +kernel
theorem dX4_lays_1 : decode cX4_lays 1 = .ok (.istore_n 3, 1) := by decide +kernel
theorem dX4_lays_2 : decode cX4_lays 2 = .ok (.aload_n 0, 1) := by decide +kernel
theorem dX4_lays_3 : decode cX4_lays 3 = .ok (.getfield 75, 3) := by decide +kernel
theorem dX4_lays_6 : decode cX4_lays 6 = .ok (.iconst 1, 1) := by decide +kernel
theorem dX4_lays_7 : decode cX4_lays 7 = .ok (.isub, 1) := by decide +kernel
theorem dX4_lays_8 : decode cX4_lays 8 = .ok (.istore 4, 2) := by decide +kernel
theorem dX4_lays_10 : decode cX4_lays 10 = .ok (.iload 4, 2) := by decide +kernel
theorem dX4_lays_12 : decode cX4_lays 12 = .ok (.ifCond .lt 28, 3) := by decide +kernel
theorem dX4_lays_15 : decode cX4_lays 15 = .ok (.aload_n 0, 1) := by decide +kernel
theorem dX4_lays_16 : decode cX4_lays 16 = .ok (.getfield 59, 3) := by decide +kernel
theorem dX4_lays_19 : decode cX4_lays 19 = .ok (.iload 4, 2) := by decide +kernel
theorem dX4_lays_21 : decode cX4_lays 21 = .ok (.aload_n 0, 1) := by decide +kernel
theorem dX4_lays_22 : decode cX4_lays 22 = .ok (.getfield 68, 3) := by decide +kernel
theorem dX4_lays_25 : decode cX4_lays 25 = .ok (.iload_n 3, 1) := by decide +kernel
theorem dX4_lays_26 : decode cX4_lays 26 = .ok (.iload_n 2, 1) := by decide +kernel
theorem dX4_lays_27 : decode cX4_lays 27 = .ok (.irem, 1) := by decide +kernel
theorem dX4_lays_28 : decode cX4_lays 28 = .ok (.iaload, 1) := by decide +kernel
theorem dX4_lays_29 : decode cX4_lays 29 = .ok (.iastore, 1) := by decide +kernel
theorem dX4_lays_30 : decode cX4_lays 30 = .ok (.iload_n 3, 1) := by decide +kernel
theorem dX4_lays_31 : decode cX4_lays 31 = .ok (.iload_n 2, 1) := by decide +kernel
theorem dX4_lays_32 : decode cX4_lays 32 = .ok (.idiv, 1) := by decide +kernel
theorem dX4_lays_33 : decode cX4_lays 33 = .ok (.istore_n 3, 1) := by decide +kernel
theorem dX4_lays_34 : decode cX4_lays 34 = .ok (.iinc 4 (-1), 3) := by decide +kernel
theorem dX4_lays_37 : decode cX4_lays 37 = .ok (.goto (-27), 3) := by decide +kernel
theorem dX4_lays_40 : decode cX4_lays 40 = .ok (.return_, 1) := by decide +kernel
theorem dX4_findBest_0 : decode cX4_findBest 0 = .ok (.iconst 0, 1) := by decide +kernel
theorem dX4_findBest_1 : decode cX4_findBest 1 = .ok (.istore_n 2, 1) := by decide +kernel
theorem dX4_findBest_2 : decode cX4_findBest 2 = .ok (.iconst 0, 1) := by decide +kernel
theorem dX4_findBest_3 : decode cX4_findBest 3 = .ok (.istore_n 3, 1) := by decide +kernel
theorem dX4_findBest_4 : decode cX4_findBest 4 = .ok (.iload_n 3, 1) := by decide +kernel
theorem dX4_findBest_5 : decode cX4_findBest 5 = .ok (.aload_n 0, 1) := by decide +kernel
theorem dX4_findBest_6 : decode cX4_findBest 6 = .ok (.getfield 92, 3) := by decide +kernel
theorem dX4_findBest_9 : decode cX4_findBest 9 = .ok (.if_icmp .ge 27, 3) := by decide +kernel
theorem dX4_findBest_12 : decode cX4_findBest 12 = .ok (.iload_n 1, 1) := by decide +kernel
theorem dX4_findBest_13 : decode cX4_findBest 13 = .ok (.iload_n 3, 1) := by decide +kernel
theorem dX4_findBest_14 : decode cX4_findBest 14 = .ok (.invokestatic 86, 3) := by decide +kernel
theorem dX4_findBest_17 : decode cX4_findBest 17 = .ok (.ifCond .eq 13, 3) := by decide +kernel
theorem dX4_findBest_20 : decode cX4_findBest 20 = .ok (.aload_n 0, 1) := by decide +kernel
theorem dX4_findBest_21 : decode cX4_findBest 21 = .ok (.getfield 68, 3) := by decide +kernel
theorem dX4_findBest_24 : decode cX4_findBest 24 = .ok (.iload_n 2, 1) := by decide +kernel
theorem dX4_findBest_25 : decode cX4_findBest 25 = .ok (.iload_n 3, 1) := by decide +kernel
theorem dX4_findBest_26 : decode cX4_findBest 26 = .ok (.iastore, 1) := by decide +kernel
theorem dX4_findBest_27 : decode cX4_findBest 27 = .ok (.iinc 2 1, 3) := by decide +kernel
theorem dX4_findBest_30 : decode cX4_findBest 30 = .ok (.iinc 3 1, 3) := by decide +kernel
theorem dX4_findBest_33 : decode cX4_findBest 33 = .ok (.goto (-29), 3) := by decide +kernel
theorem dX4_findBest_36 : decode cX4_findBest 36 = .ok (.aload_n 0, 1) := by decide +kernel
theorem dX4_findBest_37 : decode cX4_findBest 37 = .ok (.getfield 68, 3) := by decide +kernel
theorem dX4_findBest_40 : decode cX4_findBest 40 = .ok (.iload_n 2, 1) := by decide +kernel
theorem dX4_findBest_41 : decode cX4_findBest 41 = .ok (.bipush (-9), 2) := by decide +kernel
theorem dX4_findBest_43 : decode cX4_findBest 43 = .ok (.iastore, 1) := by decide +kernel
theorem dX4_findBest_44 : decode cX4_findBest 44 = .ok (.iinc 2 1, 3) := by decide +kernel
theorem dX4_findBest_47 : decode cX4_findBest 47 = .ok (.iconst 1, 1) := by decide +kernel
theorem dX4_findBest_48 : decode cX4_findBest 48 = .ok (.istore_n 3, 1) := by decide +kernel
theorem dX4_findBest_49 : decode cX4_findBest 49 = .ok (.iconst 0, 1) := by decide +kernel
theorem dX4_findBest_50 : decode cX4_findBest 50 = .ok (.istore 4, 2) := by decide +kernel
theorem dX4_findBest_52 : decode cX4_findBest 52 = .ok (.iload 4, 2) := by decide +kernel
theorem dX4_findBest_54 : decode cX4_findBest 54 = .ok (.aload_n 0, 1) := by decide +kernel
theorem dX4_findBest_55 : decode cX4_findBest 55 = .ok (.getfield 75, 3) := by decide +kernel
theorem dX4_findBest_58 : decode cX4_findBest 58 = .ok (.if_icmp .ge 13, 3) := by decide +kernel
theorem dX4_findBest_61 : decode cX4_findBest 61 = .ok (.iload_n 3, 1) := by decide +kernel
theorem dX4_findBest_62 : decode cX4_findBest 62 = .ok (.iload_n 2, 1) := by decide +kernel
theorem dX4_findBest_63 : decode cX4_findBest 63 = .ok (.imul, 1) := by decide +kernel
theorem dX4_findBest_64 : decode cX4_findBest 64 = .ok (.istore_n 3, 1) := by decide +kernel
theorem dX4_findBest_65 : decode cX4_findBest 65 = .ok (.iinc 4 1, 3) := by decide +kernel
theorem dX4_findBest_68 : decode cX4_findBest 68 = .ok (.goto (-16), 3) := by decide +kernel
theorem dX4_findBest_71 : decode cX4_findBest 71 = .ok (.aload_n 0, 1) := by decide +kernel
theorem dX4_findBest_72 : decode cX4_findBest 72 = .ok (.iconst 0, 1) := by decide +kernel
theorem dX4_findBest_73 : decode cX4_findBest 73 = .ok (.putfield 160, 3) := by decide +kernel
theorem dX4_findBest_76 : decode cX4_findBest 76 = .ok (.iconst 0, 1) := by decide +kernel
theorem dX4_findBest_77 : decode cX4_findBest 77 = .ok (.istore 4, 2) := by decide +kernel
theorem dX4_findBest_79 : decode cX4_findBest 79 = .ok (.iload 4, 2) := by decide +kernel
theorem dX4_findBest_81 : decode cX4_findBest 81 = .ok (.iload_n 3, 1) := by decide +kernel
theorem dX4_findBest_82 : decode cX4_findBest 82 = .ok (.if_icmp .ge 38, 3) := by decide +kernel
theorem dX4_findBest_85 : decode cX4_findBest 85 = .ok (.aload_n 0, 1) := by decide +kernel
theorem dX4_findBest_86 : decode cX4_findBest 86 = .ok (.iload 4, 2) := by decide +kernel
theorem dX4_findBest_88 : decode cX4_findBest 88 = .ok (.iload_n 2, 1) := by decide +kernel
theorem dX4_findBest_89 : decode cX4_findBest 89 = .ok (.invokevirtual 163, 3) := by decide +kernel
theorem dX4_findBest_92 : decode cX4_findBest 92 = .ok (.aload_n 0, 1) := by decide +kernel
theorem dX4_findBest_93 : decode cX4_findBest 93 = .ok (.iload_n 1, 1) := by decide +kernel
theorem dX4_findBest_94 : decode cX4_findBest 94 = .ok (.invokevirtual 150, 3) := by decide +kernel
theorem dX4_findBest_97 : decode cX4_findBest 97 = .ok (.ifCond .ne 17, 3) := by decide +kernel
theorem dX4_findBest_100 : decode cX4_findBest 100 = .ok (.aload_n 0, 1) := by decide +kernel
theorem dX4_findBest_101 : decode cX4_findBest 101 = .ok (.dup, 1) := by decide +kernel
theorem dX4_findBest_102 : decode cX4_findBest 102 = .ok (.getfield 160, 3) := by decide +kernel
theorem dX4_findBest_105 : decode cX4_findBest 105 = .ok (.iconst 1, 1) := by decide +kernel
theorem dX4_findBest_106 : decode cX4_findBest 106 = .ok (.iadd, 1) := by decide +kernel
theorem dX4_findBest_107 : decode cX4_findBest 107 = .ok (.putfield 160, 3) := by decide +kernel
theorem dX4_findBest_110 : decode cX4_findBest 110 = .ok (.aload_n 0, 1) := by decide +kernel
theorem dX4_findBest_111 : decode cX4_findBest 111 = .ok (.invokevirtual 167, 3) := by decide +kernel
theorem dX4_findBest_114 : decode cX4_findBest 114 = .ok (.iinc 4 1, 3) := by decide +kernel
theorem dX4_findBest_117 : decode cX4_findBest 117 = .ok (.goto (-38), 3) := by decide +kernel
theorem dX4_findBest_120 : decode cX4_findBest 120 = .ok (.return_, 1) := by decide +kernel
theorem dX4_keepsBest_0 : decode cX4_keepsBest 0 = .ok (.aload_n 0, 1) := by decide +kernel
theorem dX4_keepsBest_1 : decode cX4_keepsBest 1 = .ok (.invokevirtual 153, 3) := by decide +kernel
theorem dX4_keepsBest_4 : decode cX4_keepsBest 4 = .ok (.istore_n 1, 1) := by decide +kernel
theorem dX4_keepsBest_5 : decode cX4_keepsBest 5 = .ok (.aload_n 0, 1) := by decide +kernel
theorem dX4_keepsBest_6 : decode cX4_keepsBest 6 = .ok (.invokevirtual 156, 3) := by decide +kernel
theorem dX4_keepsBest_9 : decode cX4_keepsBest 9 = .ok (.istore_n 2, 1) := by decide +kernel
theorem dX4_keepsBest_10 : decode cX4_keepsBest 10 = .ok (.aload_n 0, 1) := by decide +kernel
theorem dX4_keepsBest_11 : decode cX4_keepsBest 11 = .ok (.getfield 160, 3) := by decide +kernel
theorem dX4_keepsBest_14 : decode cX4_keepsBest 14 = .ok (.iconst 1, 1) := by decide +kernel
theorem dX4_keepsBest_15 : decode cX4_keepsBest 15 = .ok (.if_icmp .eq 27, 3) := by decide +kernel
theorem dX4_keepsBest_18 : decode cX4_keepsBest 18 = .ok (.iload_n 1, 1) := by decide +kernel
theorem dX4_keepsBest_19 : decode cX4_keepsBest 19 = .ok (.aload_n 0, 1) := by decide +kernel
theorem dX4_keepsBest_20 : decode cX4_keepsBest 20 = .ok (.getfield 170, 3) := by decide +kernel
theorem dX4_keepsBest_23 : decode cX4_keepsBest 23 = .ok (.if_icmp .lt 19, 3) := by decide +kernel
theorem dX4_keepsBest_26 : decode cX4_keepsBest 26 = .ok (.iload_n 1, 1) := by decide +kernel
theorem dX4_keepsBest_27 : decode cX4_keepsBest 27 = .ok (.aload_n 0, 1) := by decide +kernel
theorem dX4_keepsBest_28 : decode cX4_keepsBest 28 = .ok (.getfield 170, 3) := by decide +kernel
theorem dX4_keepsBest_31 : decode cX4_keepsBest 31 = .ok (.if_icmp .ne 49, 3) := by decide +kernel
theorem dX4_keepsBest_34 : decode cX4_keepsBest 34 = .ok (.iload_n 2, 1) := by decide +kernel
theorem dX4_keepsBest_35 : decode cX4_keepsBest 35 = .ok (.aload_n 0, 1) := by decide +kernel
theorem dX4_keepsBest_36 : decode cX4_keepsBest 36 = .ok (.getfield 173, 3) := by decide +kernel
theorem dX4_keepsBest_39 : decode cX4_keepsBest 39 = .ok (.if_icmp .ge 41, 3) := by decide +kernel
theorem dX4_keepsBest_42 : decode cX4_keepsBest 42 = .ok (.aload_n 0, 1) := by decide +kernel
theorem dX4_keepsBest_43 : decode cX4_keepsBest 43 = .ok (.iload_n 1, 1) := by decide +kernel
theorem dX4_keepsBest_44 : decode cX4_keepsBest 44 = .ok (.putfield 170, 3) := by decide +kernel
theorem dX4_keepsBest_47 : decode cX4_keepsBest 47 = .ok (.aload_n 0, 1) := by decide +kernel
theorem dX4_keepsBest_48 : decode cX4_keepsBest 48 = .ok (.iload_n 2, 1) := by decide +kernel
theorem dX4_keepsBest_49 : decode cX4_keepsBest 49 = .ok (.putfield 173, 3) := by decide +kernel
theorem dX4_keepsBest_52 : decode cX4_keepsBest 52 = .ok (.iconst 0, 1) := by decide +kernel
theorem dX4_keepsBest_53 : decode cX4_keepsBest 53 = .ok (.istore_n 3, 1) := by decide +kernel
theorem dX4_keepsBest_54 : decode cX4_keepsBest 54 = .ok (.iload_n 3, 1) := by decide +kernel
theorem dX4_keepsBest_55 : decode cX4_keepsBest 55 = .ok (.aload_n 0, 1) := by decide +kernel
theorem dX4_keepsBest_56 : decode cX4_keepsBest 56 = .ok (.getfield 75, 3) := by decide +kernel
theorem dX4_keepsBest_59 : decode cX4_keepsBest 59 = .ok (.if_icmp .ge 21, 3) := by decide +kernel
theorem dX4_keepsBest_62 : decode cX4_keepsBest 62 = .ok (.aload_n 0, 1) := by decide +kernel
theorem dX4_keepsBest_63 : decode cX4_keepsBest 63 = .ok (.getfield 65, 3) := by decide +kernel
theorem dX4_keepsBest_66 : decode cX4_keepsBest 66 = .ok (.iload_n 3, 1) := by decide +kernel
theorem dX4_keepsBest_67 : decode cX4_keepsBest 67 = .ok (.aload_n 0, 1) := by decide +kernel
theorem dX4_keepsBest_68 : decode cX4_keepsBest 68 = .ok (.getfield 59, 3) := by decide +kernel
theorem dX4_keepsBest_71 : decode cX4_keepsBest 71 = .ok (.iload_n 3, 1) := by decide +kernel
theorem dX4_keepsBest_72 : decode cX4_keepsBest 72 = .ok (.iaload, 1) := by decide +kernel
theorem dX4_keepsBest_73 : decode cX4_keepsBest 73 = .ok (.iastore, 1) := by decide +kernel
theorem dX4_keepsBest_74 : decode cX4_keepsBest 74 = .ok (.iinc 3 1, 3) := by decide +kernel
theorem dX4_keepsBest_77 : decode cX4_keepsBest 77 = .ok (.goto (-23), 3) := by decide +kernel
theorem dX4_keepsBest_80 : decode cX4_keepsBest 80 = .ok (.return_, 1) := by decide +kernel
theorem dX4_triesBest_0 : decode cX4_triesBest 0 = .ok (.iconst 0, 1) := by decide +kernel
theorem dX4_triesBest_1 : decode cX4_triesBest 1 = .ok (.istore_n 1, 1) := by decide +kernel
theorem dX4_triesBest_2 : decode cX4_triesBest 2 = .ok (.iload_n 1, 1) := by decide +kernel
theorem dX4_triesBest_3 : decode cX4_triesBest 3 = .ok (.aload_n 0, 1) := by decide +kernel
theorem dX4_triesBest_4 : decode cX4_triesBest 4 = .ok (.getfield 75, 3) := by decide +kernel
theorem dX4_triesBest_7 : decode cX4_triesBest 7 = .ok (.if_icmp .ge 21, 3) := by decide +kernel
theorem dX4_triesBest_10 : decode cX4_triesBest 10 = .ok (.aload_n 0, 1) := by decide +kernel
theorem dX4_triesBest_11 : decode cX4_triesBest 11 = .ok (.getfield 59, 3) := by decide +kernel
theorem dX4_triesBest_14 : decode cX4_triesBest 14 = .ok (.iload_n 1, 1) := by decide +kernel
theorem dX4_triesBest_15 : decode cX4_triesBest 15 = .ok (.aload_n 0, 1) := by decide +kernel
theorem dX4_triesBest_16 : decode cX4_triesBest 16 = .ok (.getfield 65, 3) := by decide +kernel
theorem dX4_triesBest_19 : decode cX4_triesBest 19 = .ok (.iload_n 1, 1) := by decide +kernel
theorem dX4_triesBest_20 : decode cX4_triesBest 20 = .ok (.iaload, 1) := by decide +kernel
theorem dX4_triesBest_21 : decode cX4_triesBest 21 = .ok (.iastore, 1) := by decide +kernel
theorem dX4_triesBest_22 : decode cX4_triesBest 22 = .ok (.iinc 1 1, 3) := by decide +kernel
theorem dX4_triesBest_25 : decode cX4_triesBest 25 = .ok (.goto (-23), 3) := by decide +kernel
theorem dX4_triesBest_28 : decode cX4_triesBest 28 = .ok (.aload_n 0, 1) := by decide +kernel
theorem dX4_triesBest_29 : decode cX4_triesBest 29 = .ok (.invokevirtual 134, 3) := by decide +kernel
theorem dX4_triesBest_32 : decode cX4_triesBest 32 = .ok (.return_, 1) := by decide +kernel
theorem dX4_best_0 : decode cX4_best 0 = .ok (.iload_n 2, 1) := by decide +kernel
theorem dX4_best_1 : decode cX4_best 1 = .ok (.bipush 20, 2) := by decide +kernel
theorem dX4_best_3 : decode cX4_best 3 = .ok (.if_icmp .lt 14, 3) := by decide +kernel
theorem dX4_best_6 : decode cX4_best 6 = .ok (.aload_n 0, 1) := by decide +kernel
theorem dX4_best_7 : decode cX4_best 7 = .ok (.iload_n 2, 1) := by decide +kernel
theorem dX4_best_8 : decode cX4_best 8 = .ok (.bipush 20, 2) := by decide +kernel
theorem dX4_best_10 : decode cX4_best 10 = .ok (.isub, 1) := by decide +kernel
theorem dX4_best_11 : decode cX4_best 11 = .ok (.invokevirtual 78, 3) := by decide +kernel
theorem dX4_best_14 : decode cX4_best 14 = .ok (.goto 25, 3) := by decide +kernel
theorem dX4_best_17 : decode cX4_best 17 = .ok (.iload_n 2, 1) := by decide +kernel
theorem dX4_best_18 : decode cX4_best 18 = .ok (.bipush 10, 2) := by decide +kernel
theorem dX4_best_20 : decode cX4_best 20 = .ok (.if_icmp .lt 18, 3) := by decide +kernel
theorem dX4_best_23 : decode cX4_best 23 = .ok (.aload_n 0, 1) := by decide +kernel
theorem dX4_best_24 : decode cX4_best 24 = .ok (.iload_n 2, 1) := by decide +kernel
theorem dX4_best_25 : decode cX4_best 25 = .ok (.bipush 10, 2) := by decide +kernel
theorem dX4_best_27 : decode cX4_best 27 = .ok (.isub, 1) := by decide +kernel
theorem dX4_best_28 : decode cX4_best 28 = .ok (.invokevirtual 78, 3) := by decide +kernel
theorem dX4_best_31 : decode cX4_best 31 = .ok (.ifCond .eq 7, 3) := by decide +kernel
theorem dX4_best_34 : decode cX4_best 34 = .ok (.iconst 1, 1) := by decide +kernel
theorem dX4_best_35 : decode cX4_best 35 = .ok (.goto 4, 3) := by decide +kernel
theorem dX4_best_38 : decode cX4_best 38 = .ok (.iconst 0, 1) := by decide +kernel
theorem dX4_best_39 : decode cX4_best 39 = .ok (.istore_n 3, 1) := by decide +kernel
theorem dX4_best_40 : decode cX4_best 40 = .ok (.aload_n 0, 1) := by decide +kernel
theorem dX4_best_41 : decode cX4_best 41 = .ok (.iload_n 1, 1) := by decide +kernel
theorem dX4_best_42 : decode cX4_best 42 = .ok (.invokevirtual 144, 3) := by decide +kernel
theorem dX4_best_45 : decode cX4_best 45 = .ok (.ifCond .eq 16, 3) := by decide +kernel
theorem dX4_best_48 : decode cX4_best 48 = .ok (.iload_n 2, 1) := by decide +kernel
theorem dX4_best_49 : decode cX4_best 49 = .ok (.iconst 0, 1) := by decide +kernel
theorem dX4_best_50 : decode cX4_best 50 = .ok (.iconst 3, 1) := by decide +kernel
theorem dX4_best_51 : decode cX4_best 51 = .ok (.invokestatic 71, 3) := by decide +kernel
theorem dX4_best_54 : decode cX4_best 54 = .ok (.ifCond .ne 10, 3) := by decide +kernel
theorem dX4_best_57 : decode cX4_best 57 = .ok (.iload_n 3, 1) := by decide +kernel
theorem dX4_best_58 : decode cX4_best 58 = .ok (.ifCond .ne 6, 3) := by decide +kernel
theorem dX4_best_61 : decode cX4_best 61 = .ok (.bipush (-2), 2) := by decide +kernel
theorem dX4_best_63 : decode cX4_best 63 = .ok (.ireturn, 1) := by decide +kernel
theorem dX4_best_64 : decode cX4_best 64 = .ok (.aload_n 0, 1) := by decide +kernel
theorem dX4_best_65 : decode cX4_best 65 = .ok (.iload_n 1, 1) := by decide +kernel
theorem dX4_best_66 : decode cX4_best 66 = .ok (.invokevirtual 176, 3) := by decide +kernel
theorem dX4_best_69 : decode cX4_best 69 = .ok (.iload_n 2, 1) := by decide +kernel
theorem dX4_best_70 : decode cX4_best 70 = .ok (.iconst 3, 1) := by decide +kernel
theorem dX4_best_71 : decode cX4_best 71 = .ok (.if_icmp .ne 8, 3) := by decide +kernel
theorem dX4_best_74 : decode cX4_best 74 = .ok (.aload_n 0, 1) := by decide +kernel
theorem dX4_best_75 : decode cX4_best 75 = .ok (.getfield 160, 3) := by decide +kernel
theorem dX4_best_78 : decode cX4_best 78 = .ok (.ireturn, 1) := by decide +kernel
theorem dX4_best_79 : decode cX4_best 79 = .ok (.aload_n 0, 1) := by decide +kernel
theorem dX4_best_80 : decode cX4_best 80 = .ok (.getfield 160, 3) := by decide +kernel
theorem dX4_best_83 : decode cX4_best 83 = .ok (.ifCond .ne 6, 3) := by decide +kernel
theorem dX4_best_86 : decode cX4_best 86 = .ok (.bipush (-9), 2) := by decide +kernel
theorem dX4_best_88 : decode cX4_best 88 = .ok (.ireturn, 1) := by decide +kernel
theorem dX4_best_89 : decode cX4_best 89 = .ok (.aload_n 0, 1) := by decide +kernel
theorem dX4_best_90 : decode cX4_best 90 = .ok (.invokevirtual 180, 3) := by decide +kernel
theorem dX4_best_93 : decode cX4_best 93 = .ok (.iload_n 2, 1) := by decide +kernel
theorem dX4_best_94 : decode cX4_best 94 = .ok (.tableswitch 44 0 2 #[26, 31, 36], 26) := by decide +kernel
theorem dX4_best_120 : decode cX4_best 120 = .ok (.aload_n 0, 1) := by decide +kernel
theorem dX4_best_121 : decode cX4_best 121 = .ok (.getfield 170, 3) := by decide +kernel
theorem dX4_best_124 : decode cX4_best 124 = .ok (.ireturn, 1) := by decide +kernel
theorem dX4_best_125 : decode cX4_best 125 = .ok (.aload_n 0, 1) := by decide +kernel
theorem dX4_best_126 : decode cX4_best 126 = .ok (.getfield 173, 3) := by decide +kernel
theorem dX4_best_129 : decode cX4_best 129 = .ok (.ireturn, 1) := by decide +kernel
theorem dX4_best_130 : decode cX4_best 130 = .ok (.aload_n 0, 1) := by decide +kernel
theorem dX4_best_131 : decode cX4_best 131 = .ok (.invokevirtual 140, 3) := by decide +kernel
theorem dX4_best_134 : decode cX4_best 134 = .ok (.ldc 159, 2) := by decide +kernel
theorem dX4_best_136 : decode cX4_best 136 = .ok (.iadd, 1) := by decide +kernel
theorem dX4_best_137 : decode cX4_best 137 = .ok (.ireturn, 1) := by decide +kernel
theorem dX4_best_138 : decode cX4_best 138 = .ok (.iload_n 2, 1) := by decide +kernel
theorem dX4_best_139 : decode cX4_best 139 = .ok (.bipush 20, 2) := by decide +kernel
theorem dX4_best_141 : decode cX4_best 141 = .ok (.if_icmp .ge 15, 3) := by decide +kernel
theorem dX4_best_144 : decode cX4_best 144 = .ok (.aload_n 0, 1) := by decide +kernel
theorem dX4_best_145 : decode cX4_best 145 = .ok (.getfield 65, 3) := by decide +kernel
theorem dX4_best_148 : decode cX4_best 148 = .ok (.iload_n 2, 1) := by decide +kernel
theorem dX4_best_149 : decode cX4_best 149 = .ok (.bipush 10, 2) := by decide +kernel
theorem dX4_best_151 : decode cX4_best 151 = .ok (.isub, 1) := by decide +kernel
theorem dX4_best_152 : decode cX4_best 152 = .ok (.iaload, 1) := by decide +kernel
theorem dX4_best_153 : decode cX4_best 153 = .ok (.goto 12, 3) := by decide +kernel
theorem dX4_best_156 : decode cX4_best 156 = .ok (.aload_n 0, 1) := by decide +kernel
theorem dX4_best_157 : decode cX4_best 157 = .ok (.getfield 62, 3) := by decide +kernel
theorem dX4_best_160 : decode cX4_best 160 = .ok (.iload_n 2, 1) := by decide +kernel
theorem dX4_best_161 : decode cX4_best 161 = .ok (.bipush 20, 2) := by decide +kernel
theorem dX4_best_163 : decode cX4_best 163 = .ok (.isub, 1) := by decide +kernel
theorem dX4_best_164 : decode cX4_best 164 = .ok (.iaload, 1) := by decide +kernel
theorem dX4_best_165 : decode cX4_best 165 = .ok (.ireturn, 1) := by decide +kernel
theorem dX4_amountsOf_0 : decode cX4_amountsOf 0 = .ok (.iconst 0, 1) := by decide +kernel
theorem dX4_amountsOf_1 : decode cX4_amountsOf 1 = .ok (.istore_n 2, 1) := by decide +kernel
theorem dX4_amountsOf_2 : decode cX4_amountsOf 2 = .ok (.iconst 0, 1) := by decide +kernel
theorem dX4_amountsOf_3 : decode cX4_amountsOf 3 = .ok (.istore_n 3, 1) := by decide +kernel
theorem dX4_amountsOf_4 : decode cX4_amountsOf 4 = .ok (.iload_n 3, 1) := by decide +kernel
theorem dX4_amountsOf_5 : decode cX4_amountsOf 5 = .ok (.aload_n 0, 1) := by decide +kernel
theorem dX4_amountsOf_6 : decode cX4_amountsOf 6 = .ok (.getfield 92, 3) := by decide +kernel
theorem dX4_amountsOf_9 : decode cX4_amountsOf 9 = .ok (.if_icmp .ge 30, 3) := by decide +kernel
theorem dX4_amountsOf_12 : decode cX4_amountsOf 12 = .ok (.iload_n 2, 1) := by decide +kernel
theorem dX4_amountsOf_13 : decode cX4_amountsOf 13 = .ok (.iload_n 1, 1) := by decide +kernel
theorem dX4_amountsOf_14 : decode cX4_amountsOf 14 = .ok (.iload_n 3, 1) := by decide +kernel
theorem dX4_amountsOf_15 : decode cX4_amountsOf 15 = .ok (.invokestatic 86, 3) := by decide +kernel
theorem dX4_amountsOf_18 : decode cX4_amountsOf 18 = .ok (.ifCond .eq 12, 3) := by decide +kernel
theorem dX4_amountsOf_21 : decode cX4_amountsOf 21 = .ok (.aload_n 0, 1) := by decide +kernel
theorem dX4_amountsOf_22 : decode cX4_amountsOf 22 = .ok (.getfield 37, 3) := by decide +kernel
theorem dX4_amountsOf_25 : decode cX4_amountsOf 25 = .ok (.iload_n 3, 1) := by decide +kernel
theorem dX4_amountsOf_26 : decode cX4_amountsOf 26 = .ok (.iaload, 1) := by decide +kernel
theorem dX4_amountsOf_27 : decode cX4_amountsOf 27 = .ok (.goto 4, 3) := by decide +kernel
theorem dX4_amountsOf_30 : decode cX4_amountsOf 30 = .ok (.iconst 0, 1) := by decide +kernel
theorem dX4_amountsOf_31 : decode cX4_amountsOf 31 = .ok (.iadd, 1) := by decide +kernel
theorem dX4_amountsOf_32 : decode cX4_amountsOf 32 = .ok (.istore_n 2, 1) := by decide +kernel
theorem dX4_amountsOf_33 : decode cX4_amountsOf 33 = .ok (.iinc 3 1, 3) := by decide +kernel
theorem dX4_amountsOf_36 : decode cX4_amountsOf 36 = .ok (.goto (-32), 3) := by decide +kernel
theorem dX4_amountsOf_39 : decode cX4_amountsOf 39 = .ok (.iload_n 2, 1) := by decide +kernel
theorem dX4_amountsOf_40 : decode cX4_amountsOf 40 = .ok (.ireturn, 1) := by decide +kernel
theorem dX4_sizeOf_0 : decode cX4_sizeOf 0 = .ok (.iconst 0, 1) := by decide +kernel
theorem dX4_sizeOf_1 : decode cX4_sizeOf 1 = .ok (.istore_n 1, 1) := by decide +kernel
theorem dX4_sizeOf_2 : decode cX4_sizeOf 2 = .ok (.iload_n 0, 1) := by decide +kernel
theorem dX4_sizeOf_3 : decode cX4_sizeOf 3 = .ok (.istore_n 2, 1) := by decide +kernel
theorem dX4_sizeOf_4 : decode cX4_sizeOf 4 = .ok (.iload_n 2, 1) := by decide +kernel
theorem dX4_sizeOf_5 : decode cX4_sizeOf 5 = .ok (.ifCond .le 16, 3) := by decide +kernel
theorem dX4_sizeOf_8 : decode cX4_sizeOf 8 = .ok (.iload_n 1, 1) := by decide +kernel
theorem dX4_sizeOf_9 : decode cX4_sizeOf 9 = .ok (.iload_n 2, 1) := by decide +kernel
theorem dX4_sizeOf_10 : decode cX4_sizeOf 10 = .ok (.iconst 1, 1) := by decide +kernel
theorem dX4_sizeOf_11 : decode cX4_sizeOf 11 = .ok (.iand, 1) := by decide +kernel
theorem dX4_sizeOf_12 : decode cX4_sizeOf 12 = .ok (.iadd, 1) := by decide +kernel
theorem dX4_sizeOf_13 : decode cX4_sizeOf 13 = .ok (.istore_n 1, 1) := by decide +kernel
theorem dX4_sizeOf_14 : decode cX4_sizeOf 14 = .ok (.iload_n 2, 1) := by decide +kernel
theorem dX4_sizeOf_15 : decode cX4_sizeOf 15 = .ok (.iconst 1, 1) := by decide +kernel
theorem dX4_sizeOf_16 : decode cX4_sizeOf 16 = .ok (.ishr, 1) := by decide +kernel
theorem dX4_sizeOf_17 : decode cX4_sizeOf 17 = .ok (.istore_n 2, 1) := by decide +kernel
theorem dX4_sizeOf_18 : decode cX4_sizeOf 18 = .ok (.goto (-14), 3) := by decide +kernel
theorem dX4_sizeOf_21 : decode cX4_sizeOf 21 = .ok (.iload_n 1, 1) := by decide +kernel
theorem dX4_sizeOf_22 : decode cX4_sizeOf 22 = .ok (.ireturn, 1) := by decide +kernel
theorem dX4_isBetter_0 : decode cX4_isBetter 0 = .ok (.aload_n 0, 1) := by decide +kernel
theorem dX4_isBetter_1 : decode cX4_isBetter 1 = .ok (.iload_n 1, 1) := by decide +kernel
theorem dX4_isBetter_2 : decode cX4_isBetter 2 = .ok (.invokevirtual 183, 3) := by decide +kernel
theorem dX4_isBetter_5 : decode cX4_isBetter 5 = .ok (.aload_n 0, 1) := by decide +kernel
theorem dX4_isBetter_6 : decode cX4_isBetter 6 = .ok (.iload_n 2, 1) := by decide +kernel
theorem dX4_isBetter_7 : decode cX4_isBetter 7 = .ok (.invokevirtual 183, 3) := by decide +kernel
theorem dX4_isBetter_10 : decode cX4_isBetter 10 = .ok (.isub, 1) := by decide +kernel
theorem dX4_isBetter_11 : decode cX4_isBetter 11 = .ok (.istore_n 3, 1) := by decide +kernel
theorem dX4_isBetter_12 : decode cX4_isBetter 12 = .ok (.iload_n 3, 1) := by decide +kernel
theorem dX4_isBetter_13 : decode cX4_isBetter 13 = .ok (.ifCond .gt 18, 3) := by decide +kernel
theorem dX4_isBetter_16 : decode cX4_isBetter 16 = .ok (.iload_n 3, 1) := by decide +kernel
theorem dX4_isBetter_17 : decode cX4_isBetter 17 = .ok (.ifCond .ne 18, 3) := by decide +kernel
theorem dX4_isBetter_20 : decode cX4_isBetter 20 = .ok (.iload_n 1, 1) := by decide +kernel
theorem dX4_isBetter_21 : decode cX4_isBetter 21 = .ok (.invokestatic 186, 3) := by decide +kernel
theorem dX4_isBetter_24 : decode cX4_isBetter 24 = .ok (.iload_n 2, 1) := by decide +kernel
theorem dX4_isBetter_25 : decode cX4_isBetter 25 = .ok (.invokestatic 186, 3) := by decide +kernel
theorem dX4_isBetter_28 : decode cX4_isBetter 28 = .ok (.if_icmp .ge 7, 3) := by decide +kernel
theorem dX4_isBetter_31 : decode cX4_isBetter 31 = .ok (.iconst 1, 1) := by decide +kernel
theorem dX4_isBetter_32 : decode cX4_isBetter 32 = .ok (.goto 4, 3) := by decide +kernel
theorem dX4_isBetter_35 : decode cX4_isBetter 35 = .ok (.iconst 0, 1) := by decide +kernel
theorem dX4_isBetter_36 : decode cX4_isBetter 36 = .ok (.ireturn, 1) := by decide +kernel
theorem dX4_taken_0 : decode cX4_taken 0 = .ok (.iconst 0, 1) := by decide +kernel
theorem dX4_taken_1 : decode cX4_taken 1 = .ok (.istore_n 1, 1) := by decide +kernel
theorem dX4_taken_2 : decode cX4_taken 2 = .ok (.iconst 1, 1) := by decide +kernel
theorem dX4_taken_3 : decode cX4_taken 3 = .ok (.istore_n 2, 1) := by decide +kernel
theorem dX4_taken_4 : decode cX4_taken 4 = .ok (.iload_n 2, 1) := by decide +kernel
theorem dX4_taken_5 : decode cX4_taken 5 = .ok (.iconst 1, 1) := by decide +kernel
theorem dX4_taken_6 : decode cX4_taken 6 = .ok (.aload_n 0, 1) := by decide +kernel
theorem dX4_taken_7 : decode cX4_taken 7 = .ok (.getfield 92, 3) := by decide +kernel
theorem dX4_taken_10 : decode cX4_taken 10 = .ok (.ishl, 1) := by decide +kernel
theorem dX4_taken_11 : decode cX4_taken 11 = .ok (.if_icmp .ge 36, 3) := by decide +kernel
theorem dX4_taken_14 : decode cX4_taken 14 = .ok (.aload_n 0, 1) := by decide +kernel
theorem dX4_taken_15 : decode cX4_taken 15 = .ok (.iload_n 2, 1) := by decide +kernel
theorem dX4_taken_16 : decode cX4_taken 16 = .ok (.iload_n 1, 1) := by decide +kernel
theorem dX4_taken_17 : decode cX4_taken 17 = .ok (.invokevirtual 189, 3) := by decide +kernel
theorem dX4_taken_20 : decode cX4_taken 20 = .ok (.ifCond .eq 21, 3) := by decide +kernel
theorem dX4_taken_23 : decode cX4_taken 23 = .ok (.aload_n 0, 1) := by decide +kernel
theorem dX4_taken_24 : decode cX4_taken 24 = .ok (.iload_n 2, 1) := by decide +kernel
theorem dX4_taken_25 : decode cX4_taken 25 = .ok (.invokevirtual 176, 3) := by decide +kernel
theorem dX4_taken_28 : decode cX4_taken 28 = .ok (.aload_n 0, 1) := by decide +kernel
theorem dX4_taken_29 : decode cX4_taken 29 = .ok (.getfield 160, 3) := by decide +kernel
theorem dX4_taken_32 : decode cX4_taken 32 = .ok (.ifCond .le 7, 3) := by decide +kernel
theorem dX4_taken_35 : decode cX4_taken 35 = .ok (.iload_n 2, 1) := by decide +kernel
theorem dX4_taken_36 : decode cX4_taken 36 = .ok (.goto 4, 3) := by decide +kernel
theorem dX4_taken_39 : decode cX4_taken 39 = .ok (.iload_n 1, 1) := by decide +kernel
theorem dX4_taken_40 : decode cX4_taken 40 = .ok (.istore_n 1, 1) := by decide +kernel
theorem dX4_taken_41 : decode cX4_taken 41 = .ok (.iinc 2 1, 3) := by decide +kernel
theorem dX4_taken_44 : decode cX4_taken 44 = .ok (.goto (-40), 3) := by decide +kernel
theorem dX4_taken_47 : decode cX4_taken 47 = .ok (.iload_n 1, 1) := by decide +kernel
theorem dX4_taken_48 : decode cX4_taken 48 = .ok (.ireturn, 1) := by decide +kernel
theorem dX4_load_0 : decode cX4_load 0 = .ok (.iconst 1, 1) := by decide +kernel
theorem dX4_load_1 : decode cX4_load 1 = .ok (.istore_n 1, 1) := by decide +kernel
theorem dX4_load_2 : decode cX4_load 2 = .ok (.iconst 0, 1) := by decide +kernel
theorem dX4_load_3 : decode cX4_load 3 = .ok (.istore_n 2, 1) := by decide +kernel
theorem dX4_load_4 : decode cX4_load 4 = .ok (.iload_n 2, 1) := by decide +kernel
theorem dX4_load_5 : decode cX4_load 5 = .ok (.aload_n 0, 1) := by decide +kernel
theorem dX4_load_6 : decode cX4_load 6 = .ok (.getfield 75, 3) := by decide +kernel
theorem dX4_load_9 : decode cX4_load 9 = .ok (.if_icmp .ge 30, 3) := by decide +kernel
theorem dX4_load_12 : decode cX4_load 12 = .ok (.iload_n 1, 1) := by decide +kernel
theorem dX4_load_13 : decode cX4_load 13 = .ok (.ifCond .eq 18, 3) := by decide +kernel
theorem dX4_load_16 : decode cX4_load 16 = .ok (.aload_n 0, 1) := by decide +kernel
theorem dX4_load_17 : decode cX4_load 17 = .ok (.getfield 28, 3) := by decide +kernel
theorem dX4_load_20 : decode cX4_load 20 = .ok (.iload_n 2, 1) := by decide +kernel
theorem dX4_load_21 : decode cX4_load 21 = .ok (.iaload, 1) := by decide +kernel
theorem dX4_load_22 : decode cX4_load 22 = .ok (.bipush (-9), 2) := by decide +kernel
theorem dX4_load_24 : decode cX4_load 24 = .ok (.if_icmp .ne 7, 3) := by decide +kernel
theorem dX4_load_27 : decode cX4_load 27 = .ok (.iconst 1, 1) := by decide +kernel
theorem dX4_load_28 : decode cX4_load 28 = .ok (.goto 4, 3) := by decide +kernel
theorem dX4_load_31 : decode cX4_load 31 = .ok (.iconst 0, 1) := by decide +kernel
theorem dX4_load_32 : decode cX4_load 32 = .ok (.istore_n 1, 1) := by decide +kernel
theorem dX4_load_33 : decode cX4_load 33 = .ok (.iinc 2 1, 3) := by decide +kernel
theorem dX4_load_36 : decode cX4_load 36 = .ok (.goto (-32), 3) := by decide +kernel
theorem dX4_load_39 : decode cX4_load 39 = .ok (.iload_n 1, 1) := by decide +kernel
theorem dX4_load_40 : decode cX4_load 40 = .ok (.ifCond .eq 10, 3) := by decide +kernel
theorem dX4_load_43 : decode cX4_load 43 = .ok (.aload_n 0, 1) := by decide +kernel
theorem dX4_load_44 : decode cX4_load 44 = .ok (.invokevirtual 192, 3) := by decide +kernel
theorem dX4_load_47 : decode cX4_load 47 = .ok (.goto 4, 3) := by decide +kernel
theorem dX4_load_50 : decode cX4_load 50 = .ok (.iconst 0, 1) := by decide +kernel
theorem dX4_load_51 : decode cX4_load 51 = .ok (.istore_n 2, 1) := by decide +kernel
theorem dX4_load_52 : decode cX4_load 52 = .ok (.iload_n 2, 1) := by decide +kernel
theorem dX4_load_53 : decode cX4_load 53 = .ok (.ifCond .ne 6, 3) := by decide +kernel
theorem dX4_load_56 : decode cX4_load 56 = .ok (.bipush (-3), 2) := by decide +kernel
theorem dX4_load_58 : decode cX4_load 58 = .ok (.ireturn, 1) := by decide +kernel
theorem dX4_load_59 : decode cX4_load 59 = .ok (.aload_n 0, 1) := by decide +kernel
theorem dX4_load_60 : decode cX4_load 60 = .ok (.iload_n 2, 1) := by decide +kernel
theorem dX4_load_61 : decode cX4_load 61 = .ok (.invokevirtual 176, 3) := by decide +kernel
theorem dX4_load_64 : decode cX4_load 64 = .ok (.aload_n 0, 1) := by decide +kernel
theorem dX4_load_65 : decode cX4_load 65 = .ok (.invokevirtual 180, 3) := by decide +kernel
theorem dX4_load_68 : decode cX4_load 68 = .ok (.iconst 0, 1) := by decide +kernel
theorem dX4_load_69 : decode cX4_load 69 = .ok (.istore_n 3, 1) := by decide +kernel
theorem dX4_load_70 : decode cX4_load 70 = .ok (.iload_n 3, 1) := by decide +kernel
theorem dX4_load_71 : decode cX4_load 71 = .ok (.aload_n 0, 1) := by decide +kernel
theorem dX4_load_72 : decode cX4_load 72 = .ok (.getfield 75, 3) := by decide +kernel
theorem dX4_load_75 : decode cX4_load 75 = .ok (.if_icmp .ge 33, 3) := by decide +kernel
theorem dX4_load_78 : decode cX4_load 78 = .ok (.aload_n 0, 1) := by decide +kernel
theorem dX4_load_79 : decode cX4_load 79 = .ok (.getfield 28, 3) := by decide +kernel
theorem dX4_load_82 : decode cX4_load 82 = .ok (.iload_n 3, 1) := by decide +kernel
theorem dX4_load_83 : decode cX4_load 83 = .ok (.aload_n 0, 1) := by decide +kernel
theorem dX4_load_84 : decode cX4_load 84 = .ok (.getfield 65, 3) := by decide +kernel
theorem dX4_load_87 : decode cX4_load 87 = .ok (.iload_n 3, 1) := by decide +kernel
theorem dX4_load_88 : decode cX4_load 88 = .ok (.iaload, 1) := by decide +kernel
theorem dX4_load_89 : decode cX4_load 89 = .ok (.iastore, 1) := by decide +kernel
theorem dX4_load_90 : decode cX4_load 90 = .ok (.aload_n 0, 1) := by decide +kernel
theorem dX4_load_91 : decode cX4_load 91 = .ok (.getfield 31, 3) := by decide +kernel
theorem dX4_load_94 : decode cX4_load 94 = .ok (.iload_n 3, 1) := by decide +kernel
theorem dX4_load_95 : decode cX4_load 95 = .ok (.aload_n 0, 1) := by decide +kernel
theorem dX4_load_96 : decode cX4_load 96 = .ok (.getfield 62, 3) := by decide +kernel
theorem dX4_load_99 : decode cX4_load 99 = .ok (.iload_n 3, 1) := by decide +kernel
theorem dX4_load_100 : decode cX4_load 100 = .ok (.iaload, 1) := by decide +kernel
theorem dX4_load_101 : decode cX4_load 101 = .ok (.iastore, 1) := by decide +kernel
theorem dX4_load_102 : decode cX4_load 102 = .ok (.iinc 3 1, 3) := by decide +kernel
theorem dX4_load_105 : decode cX4_load 105 = .ok (.goto (-35), 3) := by decide +kernel
theorem dX4_load_108 : decode cX4_load 108 = .ok (.aload_n 0, 1) := by decide +kernel
theorem dX4_load_109 : decode cX4_load 109 = .ok (.dup, 1) := by decide +kernel
theorem dX4_load_110 : decode cX4_load 110 = .ok (.getfield 195, 3) := by decide +kernel
theorem dX4_load_113 : decode cX4_load 113 = .ok (.aload_n 0, 1) := by decide +kernel
theorem dX4_load_114 : decode cX4_load 114 = .ok (.getfield 170, 3) := by decide +kernel
theorem dX4_load_117 : decode cX4_load 117 = .ok (.iadd, 1) := by decide +kernel
theorem dX4_load_118 : decode cX4_load 118 = .ok (.putfield 195, 3) := by decide +kernel
theorem dX4_load_121 : decode cX4_load 121 = .ok (.aload_n 0, 1) := by decide +kernel
theorem dX4_load_122 : decode cX4_load 122 = .ok (.getfield 170, 3) := by decide +kernel
theorem dX4_load_125 : decode cX4_load 125 = .ok (.ireturn, 1) := by decide +kernel
theorem dX4_empties_0 : decode cX4_empties 0 = .ok (.aload_n 0, 1) := by decide +kernel
theorem dX4_empties_1 : decode cX4_empties 1 = .ok (.getfield 22, 3) := by decide +kernel
theorem dX4_empties_4 : decode cX4_empties 4 = .ok (.iconst 3, 1) := by decide +kernel
theorem dX4_empties_5 : decode cX4_empties 5 = .ok (.iload_n 1, 1) := by decide +kernel
theorem dX4_empties_6 : decode cX4_empties 6 = .ok (.imul, 1) := by decide +kernel
theorem dX4_empties_7 : decode cX4_empties 7 = .ok (.iconst 2, 1) := by decide +kernel
theorem dX4_empties_8 : decode cX4_empties 8 = .ok (.iadd, 1) := by decide +kernel
theorem dX4_empties_9 : decode cX4_empties 9 = .ok (.aload_n 0, 1) := by decide +kernel
theorem dX4_empties_10 : decode cX4_empties 10 = .ok (.getfield 22, 3) := by decide +kernel
theorem dX4_empties_13 : decode cX4_empties 13 = .ok (.iconst 3, 1) := by decide +kernel
theorem dX4_empties_14 : decode cX4_empties 14 = .ok (.iload_n 1, 1) := by decide +kernel
theorem dX4_empties_15 : decode cX4_empties 15 = .ok (.imul, 1) := by decide +kernel
theorem dX4_empties_16 : decode cX4_empties 16 = .ok (.iconst 1, 1) := by decide +kernel
theorem dX4_empties_17 : decode cX4_empties 17 = .ok (.iadd, 1) := by decide +kernel
theorem dX4_empties_18 : decode cX4_empties 18 = .ok (.iaload, 1) := by decide +kernel
theorem dX4_empties_19 : decode cX4_empties 19 = .ok (.iastore, 1) := by decide +kernel
theorem dX4_empties_20 : decode cX4_empties 20 = .ok (.aload_n 0, 1) := by decide +kernel
theorem dX4_empties_21 : decode cX4_empties 21 = .ok (.getfield 22, 3) := by decide +kernel
theorem dX4_empties_24 : decode cX4_empties 24 = .ok (.iconst 3, 1) := by decide +kernel
theorem dX4_empties_25 : decode cX4_empties 25 = .ok (.iload_n 1, 1) := by decide +kernel
theorem dX4_empties_26 : decode cX4_empties 26 = .ok (.imul, 1) := by decide +kernel
theorem dX4_empties_27 : decode cX4_empties 27 = .ok (.iconst 1, 1) := by decide +kernel
theorem dX4_empties_28 : decode cX4_empties 28 = .ok (.iadd, 1) := by decide +kernel
theorem dX4_empties_29 : decode cX4_empties 29 = .ok (.aload_n 0, 1) := by decide +kernel
theorem dX4_empties_30 : decode cX4_empties 30 = .ok (.getfield 22, 3) := by decide +kernel
theorem dX4_empties_33 : decode cX4_empties 33 = .ok (.iconst 3, 1) := by decide +kernel
theorem dX4_empties_34 : decode cX4_empties 34 = .ok (.iload_n 1, 1) := by decide +kernel
theorem dX4_empties_35 : decode cX4_empties 35 = .ok (.imul, 1) := by decide +kernel
theorem dX4_empties_36 : decode cX4_empties 36 = .ok (.iaload, 1) := by decide +kernel
theorem dX4_empties_37 : decode cX4_empties 37 = .ok (.iastore, 1) := by decide +kernel
theorem dX4_empties_38 : decode cX4_empties 38 = .ok (.aload_n 0, 1) := by decide +kernel
theorem dX4_empties_39 : decode cX4_empties 39 = .ok (.getfield 22, 3) := by decide +kernel
theorem dX4_empties_42 : decode cX4_empties 42 = .ok (.iconst 3, 1) := by decide +kernel
theorem dX4_empties_43 : decode cX4_empties 43 = .ok (.iload_n 1, 1) := by decide +kernel
theorem dX4_empties_44 : decode cX4_empties 44 = .ok (.imul, 1) := by decide +kernel
theorem dX4_empties_45 : decode cX4_empties 45 = .ok (.aload_n 0, 1) := by decide +kernel
theorem dX4_empties_46 : decode cX4_empties 46 = .ok (.getfield 34, 3) := by decide +kernel
theorem dX4_empties_49 : decode cX4_empties 49 = .ok (.aload_n 0, 1) := by decide +kernel
theorem dX4_empties_50 : decode cX4_empties 50 = .ok (.getfield 28, 3) := by decide +kernel
theorem dX4_empties_53 : decode cX4_empties 53 = .ok (.iload_n 1, 1) := by decide +kernel
theorem dX4_empties_54 : decode cX4_empties 54 = .ok (.iaload, 1) := by decide +kernel
theorem dX4_empties_55 : decode cX4_empties 55 = .ok (.iaload, 1) := by decide +kernel
theorem dX4_empties_56 : decode cX4_empties 56 = .ok (.iastore, 1) := by decide +kernel
theorem dX4_empties_57 : decode cX4_empties 57 = .ok (.aload_n 0, 1) := by decide +kernel
theorem dX4_empties_58 : decode cX4_empties 58 = .ok (.getfield 28, 3) := by decide +kernel
theorem dX4_empties_61 : decode cX4_empties 61 = .ok (.iload_n 1, 1) := by decide +kernel
theorem dX4_empties_62 : decode cX4_empties 62 = .ok (.bipush (-9), 2) := by decide +kernel
theorem dX4_empties_64 : decode cX4_empties 64 = .ok (.iastore, 1) := by decide +kernel
theorem dX4_empties_65 : decode cX4_empties 65 = .ok (.aload_n 0, 1) := by decide +kernel
theorem dX4_empties_66 : decode cX4_empties 66 = .ok (.getfield 31, 3) := by decide +kernel
theorem dX4_empties_69 : decode cX4_empties 69 = .ok (.iload_n 1, 1) := by decide +kernel
theorem dX4_empties_70 : decode cX4_empties 70 = .ok (.iconst 0, 1) := by decide +kernel
theorem dX4_empties_71 : decode cX4_empties 71 = .ok (.iastore, 1) := by decide +kernel
theorem dX4_empties_72 : decode cX4_empties 72 = .ok (.return_, 1) := by decide +kernel
theorem dX4_unload_0 : decode cX4_unload 0 = .ok (.aload_n 0, 1) := by decide +kernel
theorem dX4_unload_1 : decode cX4_unload 1 = .ok (.iload_n 1, 1) := by decide +kernel
theorem dX4_unload_2 : decode cX4_unload 2 = .ok (.invokevirtual 102, 3) := by decide +kernel
theorem dX4_unload_5 : decode cX4_unload 5 = .ok (.ifCond .ne 5, 3) := by decide +kernel
theorem dX4_unload_8 : decode cX4_unload 8 = .ok (.iconst (-1), 1) := by decide +kernel
theorem dX4_unload_9 : decode cX4_unload 9 = .ok (.ireturn, 1) := by decide +kernel
theorem dX4_unload_10 : decode cX4_unload 10 = .ok (.aload_n 0, 1) := by decide +kernel
theorem dX4_unload_11 : decode cX4_unload 11 = .ok (.iload_n 1, 1) := by decide +kernel
theorem dX4_unload_12 : decode cX4_unload 12 = .ok (.invokevirtual 98, 3) := by decide +kernel
theorem dX4_unload_15 : decode cX4_unload 15 = .ok (.istore_n 2, 1) := by decide +kernel
theorem dX4_unload_16 : decode cX4_unload 16 = .ok (.iload_n 2, 1) := by decide +kernel
theorem dX4_unload_17 : decode cX4_unload 17 = .ok (.ifCond .ne 6, 3) := by decide +kernel
theorem dX4_unload_20 : decode cX4_unload 20 = .ok (.bipush (-3), 2) := by decide +kernel
theorem dX4_unload_22 : decode cX4_unload 22 = .ok (.ireturn, 1) := by decide +kernel
theorem dX4_unload_23 : decode cX4_unload 23 = .ok (.iconst 0, 1) := by decide +kernel
theorem dX4_unload_24 : decode cX4_unload 24 = .ok (.istore_n 3, 1) := by decide +kernel
theorem dX4_unload_25 : decode cX4_unload 25 = .ok (.iload_n 3, 1) := by decide +kernel
theorem dX4_unload_26 : decode cX4_unload 26 = .ok (.aload_n 0, 1) := by decide +kernel
theorem dX4_unload_27 : decode cX4_unload 27 = .ok (.getfield 75, 3) := by decide +kernel
theorem dX4_unload_30 : decode cX4_unload 30 = .ok (.if_icmp .ge 24, 3) := by decide +kernel
theorem dX4_unload_33 : decode cX4_unload 33 = .ok (.aload_n 0, 1) := by decide +kernel
theorem dX4_unload_34 : decode cX4_unload 34 = .ok (.getfield 28, 3) := by decide +kernel
theorem dX4_unload_37 : decode cX4_unload 37 = .ok (.iload_n 3, 1) := by decide +kernel
theorem dX4_unload_38 : decode cX4_unload 38 = .ok (.iaload, 1) := by decide +kernel
theorem dX4_unload_39 : decode cX4_unload 39 = .ok (.iload_n 1, 1) := by decide +kernel
theorem dX4_unload_40 : decode cX4_unload 40 = .ok (.if_icmp .ne 8, 3) := by decide +kernel
theorem dX4_unload_43 : decode cX4_unload 43 = .ok (.aload_n 0, 1) := by decide +kernel
theorem dX4_unload_44 : decode cX4_unload 44 = .ok (.iload_n 3, 1) := by decide +kernel
theorem dX4_unload_45 : decode cX4_unload 45 = .ok (.invokevirtual 198, 3) := by decide +kernel
theorem dX4_unload_48 : decode cX4_unload 48 = .ok (.iinc 3 1, 3) := by decide +kernel
theorem dX4_unload_51 : decode cX4_unload 51 = .ok (.goto (-26), 3) := by decide +kernel
theorem dX4_unload_54 : decode cX4_unload 54 = .ok (.iload_n 2, 1) := by decide +kernel
theorem dX4_unload_55 : decode cX4_unload 55 = .ok (.ireturn, 1) := by decide +kernel
theorem dX4_mayTake_0 : decode cX4_mayTake 0 = .ok (.aload_n 0, 1) := by decide +kernel
theorem dX4_mayTake_1 : decode cX4_mayTake 1 = .ok (.iload_n 1, 1) := by decide +kernel
theorem dX4_mayTake_2 : decode cX4_mayTake 2 = .ok (.iload_n 2, 1) := by decide +kernel
theorem dX4_mayTake_3 : decode cX4_mayTake 3 = .ok (.invokevirtual 108, 3) := by decide +kernel
theorem dX4_mayTake_6 : decode cX4_mayTake 6 = .ok (.ifCond .ne 7, 3) := by decide +kernel
theorem dX4_mayTake_9 : decode cX4_mayTake 9 = .ok (.iconst 1, 1) := by decide +kernel
theorem dX4_mayTake_10 : decode cX4_mayTake 10 = .ok (.goto 4, 3) := by decide +kernel
theorem dX4_mayTake_13 : decode cX4_mayTake 13 = .ok (.iconst 0, 1) := by decide +kernel
theorem dX4_mayTake_14 : decode cX4_mayTake 14 = .ok (.istore_n 3, 1) := by decide +kernel
theorem dX4_mayTake_15 : decode cX4_mayTake 15 = .ok (.iconst 0, 1) := by decide +kernel
theorem dX4_mayTake_16 : decode cX4_mayTake 16 = .ok (.istore 4, 2) := by decide +kernel
theorem dX4_mayTake_18 : decode cX4_mayTake 18 = .ok (.iload 4, 2) := by decide +kernel
theorem dX4_mayTake_20 : decode cX4_mayTake 20 = .ok (.aload_n 0, 1) := by decide +kernel
theorem dX4_mayTake_21 : decode cX4_mayTake 21 = .ok (.getfield 75, 3) := by decide +kernel
theorem dX4_mayTake_24 : decode cX4_mayTake 24 = .ok (.if_icmp .ge 60, 3) := by decide +kernel
theorem dX4_mayTake_27 : decode cX4_mayTake 27 = .ok (.iload_n 3, 1) := by decide +kernel
theorem dX4_mayTake_28 : decode cX4_mayTake 28 = .ok (.ifCond .eq 48, 3) := by decide +kernel
theorem dX4_mayTake_31 : decode cX4_mayTake 31 = .ok (.aload_n 0, 1) := by decide +kernel
theorem dX4_mayTake_32 : decode cX4_mayTake 32 = .ok (.getfield 19, 3) := by decide +kernel
theorem dX4_mayTake_35 : decode cX4_mayTake 35 = .ok (.iload_n 1, 1) := by decide +kernel
theorem dX4_mayTake_36 : decode cX4_mayTake 36 = .ok (.iaload, 1) := by decide +kernel
theorem dX4_mayTake_37 : decode cX4_mayTake 37 = .ok (.iload 4, 2) := by decide +kernel
theorem dX4_mayTake_39 : decode cX4_mayTake 39 = .ok (.invokestatic 86, 3) := by decide +kernel
theorem dX4_mayTake_42 : decode cX4_mayTake 42 = .ok (.ifCond .eq 30, 3) := by decide +kernel
theorem dX4_mayTake_45 : decode cX4_mayTake 45 = .ok (.aload_n 0, 1) := by decide +kernel
theorem dX4_mayTake_46 : decode cX4_mayTake 46 = .ok (.getfield 28, 3) := by decide +kernel
theorem dX4_mayTake_49 : decode cX4_mayTake 49 = .ok (.iload 4, 2) := by decide +kernel
theorem dX4_mayTake_51 : decode cX4_mayTake 51 = .ok (.iaload, 1) := by decide +kernel
theorem dX4_mayTake_52 : decode cX4_mayTake 52 = .ok (.bipush (-9), 2) := by decide +kernel
theorem dX4_mayTake_54 : decode cX4_mayTake 54 = .ok (.if_icmp .eq 18, 3) := by decide +kernel
theorem dX4_mayTake_57 : decode cX4_mayTake 57 = .ok (.aload_n 0, 1) := by decide +kernel
theorem dX4_mayTake_58 : decode cX4_mayTake 58 = .ok (.aload_n 0, 1) := by decide +kernel
theorem dX4_mayTake_59 : decode cX4_mayTake 59 = .ok (.getfield 28, 3) := by decide +kernel
theorem dX4_mayTake_62 : decode cX4_mayTake 62 = .ok (.iload 4, 2) := by decide +kernel
theorem dX4_mayTake_64 : decode cX4_mayTake 64 = .ok (.iaload, 1) := by decide +kernel
theorem dX4_mayTake_65 : decode cX4_mayTake 65 = .ok (.iload_n 2, 1) := by decide +kernel
theorem dX4_mayTake_66 : decode cX4_mayTake 66 = .ok (.invokevirtual 105, 3) := by decide +kernel
theorem dX4_mayTake_69 : decode cX4_mayTake 69 = .ok (.ifCond .ne 7, 3) := by decide +kernel
theorem dX4_mayTake_72 : decode cX4_mayTake 72 = .ok (.iconst 1, 1) := by decide +kernel
theorem dX4_mayTake_73 : decode cX4_mayTake 73 = .ok (.goto 4, 3) := by decide +kernel
theorem dX4_mayTake_76 : decode cX4_mayTake 76 = .ok (.iconst 0, 1) := by decide +kernel
theorem dX4_mayTake_77 : decode cX4_mayTake 77 = .ok (.istore_n 3, 1) := by decide +kernel
theorem dX4_mayTake_78 : decode cX4_mayTake 78 = .ok (.iinc 4 1, 3) := by decide +kernel
theorem dX4_mayTake_81 : decode cX4_mayTake 81 = .ok (.goto (-63), 3) := by decide +kernel
theorem dX4_mayTake_84 : decode cX4_mayTake 84 = .ok (.iload_n 3, 1) := by decide +kernel
theorem dX4_mayTake_85 : decode cX4_mayTake 85 = .ok (.ireturn, 1) := by decide +kernel
theorem dX4_pour_0 : decode cX4_pour 0 = .ok (.aload_n 0, 1) := by decide +kernel
theorem dX4_pour_1 : decode cX4_pour 1 = .ok (.iload_n 1, 1) := by decide +kernel
theorem dX4_pour_2 : decode cX4_pour 2 = .ok (.iload_n 2, 1) := by decide +kernel
theorem dX4_pour_3 : decode cX4_pour 3 = .ok (.invokevirtual 82, 3) := by decide +kernel
theorem dX4_pour_6 : decode cX4_pour 6 = .ok (.ifCond .ne 5, 3) := by decide +kernel
theorem dX4_pour_9 : decode cX4_pour 9 = .ok (.iconst (-1), 1) := by decide +kernel
theorem dX4_pour_10 : decode cX4_pour 10 = .ok (.ireturn, 1) := by decide +kernel
theorem dX4_pour_11 : decode cX4_pour 11 = .ok (.iload_n 3, 1) := by decide +kernel
theorem dX4_pour_12 : decode cX4_pour 12 = .ok (.iconst 1, 1) := by decide +kernel
theorem dX4_pour_13 : decode cX4_pour 13 = .ok (.bipush 99, 2) := by decide +kernel
theorem dX4_pour_15 : decode cX4_pour 15 = .ok (.invokestatic 71, 3) := by decide +kernel
theorem dX4_pour_18 : decode cX4_pour 18 = .ok (.ifCond .ne 6, 3) := by decide +kernel
theorem dX4_pour_21 : decode cX4_pour 21 = .ok (.bipush (-2), 2) := by decide +kernel
theorem dX4_pour_23 : decode cX4_pour 23 = .ok (.ireturn, 1) := by decide +kernel
theorem dX4_pour_24 : decode cX4_pour 24 = .ok (.aload_n 0, 1) := by decide +kernel
theorem dX4_pour_25 : decode cX4_pour 25 = .ok (.getfield 28, 3) := by decide +kernel
theorem dX4_pour_28 : decode cX4_pour 28 = .ok (.iload_n 1, 1) := by decide +kernel
theorem dX4_pour_29 : decode cX4_pour 29 = .ok (.iaload, 1) := by decide +kernel
theorem dX4_pour_30 : decode cX4_pour 30 = .ok (.istore 4, 2) := by decide +kernel
theorem dX4_pour_32 : decode cX4_pour 32 = .ok (.aload_n 0, 1) := by decide +kernel
theorem dX4_pour_33 : decode cX4_pour 33 = .ok (.getfield 28, 3) := by decide +kernel
theorem dX4_pour_36 : decode cX4_pour 36 = .ok (.iload_n 2, 1) := by decide +kernel
theorem dX4_pour_37 : decode cX4_pour 37 = .ok (.iaload, 1) := by decide +kernel
theorem dX4_pour_38 : decode cX4_pour 38 = .ok (.bipush (-9), 2) := by decide +kernel
theorem dX4_pour_40 : decode cX4_pour 40 = .ok (.if_icmp .ne 7, 3) := by decide +kernel
theorem dX4_pour_43 : decode cX4_pour 43 = .ok (.iconst 1, 1) := by decide +kernel
theorem dX4_pour_44 : decode cX4_pour 44 = .ok (.goto 4, 3) := by decide +kernel
theorem dX4_pour_47 : decode cX4_pour 47 = .ok (.iconst 0, 1) := by decide +kernel
theorem dX4_pour_48 : decode cX4_pour 48 = .ok (.istore 5, 2) := by decide +kernel
theorem dX4_pour_50 : decode cX4_pour 50 = .ok (.aload_n 0, 1) := by decide +kernel
theorem dX4_pour_51 : decode cX4_pour 51 = .ok (.getfield 31, 3) := by decide +kernel
theorem dX4_pour_54 : decode cX4_pour 54 = .ok (.iload_n 1, 1) := by decide +kernel
theorem dX4_pour_55 : decode cX4_pour 55 = .ok (.iaload, 1) := by decide +kernel
theorem dX4_pour_56 : decode cX4_pour 56 = .ok (.iload_n 3, 1) := by decide +kernel
theorem dX4_pour_57 : decode cX4_pour 57 = .ok (.if_icmp .lt 49, 3) := by decide +kernel
theorem dX4_pour_60 : decode cX4_pour 60 = .ok (.aload_n 0, 1) := by decide +kernel
theorem dX4_pour_61 : decode cX4_pour 61 = .ok (.getfield 7, 3) := by decide +kernel
theorem dX4_pour_64 : decode cX4_pour 64 = .ok (.iload_n 2, 1) := by decide +kernel
theorem dX4_pour_65 : decode cX4_pour 65 = .ok (.iaload, 1) := by decide +kernel
theorem dX4_pour_66 : decode cX4_pour 66 = .ok (.aload_n 0, 1) := by decide +kernel
theorem dX4_pour_67 : decode cX4_pour 67 = .ok (.getfield 31, 3) := by decide +kernel
theorem dX4_pour_70 : decode cX4_pour 70 = .ok (.iload_n 2, 1) := by decide +kernel
theorem dX4_pour_71 : decode cX4_pour 71 = .ok (.iaload, 1) := by decide +kernel
theorem dX4_pour_72 : decode cX4_pour 72 = .ok (.isub, 1) := by decide +kernel
theorem dX4_pour_73 : decode cX4_pour 73 = .ok (.iload_n 3, 1) := by decide +kernel
theorem dX4_pour_74 : decode cX4_pour 74 = .ok (.if_icmp .lt 32, 3) := by decide +kernel
theorem dX4_pour_77 : decode cX4_pour 77 = .ok (.iload 5, 2) := by decide +kernel
theorem dX4_pour_79 : decode cX4_pour 79 = .ok (.ifCond .eq 16, 3) := by decide +kernel
theorem dX4_pour_82 : decode cX4_pour 82 = .ok (.aload_n 0, 1) := by decide +kernel
theorem dX4_pour_83 : decode cX4_pour 83 = .ok (.iload_n 2, 1) := by decide +kernel
theorem dX4_pour_84 : decode cX4_pour 84 = .ok (.iload 4, 2) := by decide +kernel
theorem dX4_pour_86 : decode cX4_pour 86 = .ok (.invokevirtual 201, 3) := by decide +kernel
theorem dX4_pour_89 : decode cX4_pour 89 = .ok (.ifCond .ne 20, 3) := by decide +kernel
theorem dX4_pour_92 : decode cX4_pour 92 = .ok (.goto 14, 3) := by decide +kernel
theorem dX4_pour_95 : decode cX4_pour 95 = .ok (.aload_n 0, 1) := by decide +kernel
theorem dX4_pour_96 : decode cX4_pour 96 = .ok (.getfield 28, 3) := by decide +kernel
theorem dX4_pour_99 : decode cX4_pour 99 = .ok (.iload_n 2, 1) := by decide +kernel
theorem dX4_pour_100 : decode cX4_pour 100 = .ok (.iaload, 1) := by decide +kernel
theorem dX4_pour_101 : decode cX4_pour 101 = .ok (.iload 4, 2) := by decide +kernel
theorem dX4_pour_103 : decode cX4_pour 103 = .ok (.if_icmp .eq 6, 3) := by decide +kernel
theorem dX4_pour_106 : decode cX4_pour 106 = .ok (.bipush (-3), 2) := by decide +kernel
theorem dX4_pour_108 : decode cX4_pour 108 = .ok (.ireturn, 1) := by decide +kernel
theorem dX4_pour_109 : decode cX4_pour 109 = .ok (.aload_n 0, 1) := by decide +kernel
theorem dX4_pour_110 : decode cX4_pour 110 = .ok (.dup, 1) := by decide +kernel
theorem dX4_pour_111 : decode cX4_pour 111 = .ok (.getfield 195, 3) := by decide +kernel
theorem dX4_pour_114 : decode cX4_pour 114 = .ok (.iload 5, 2) := by decide +kernel
theorem dX4_pour_116 : decode cX4_pour 116 = .ok (.ifCond .eq 13, 3) := by decide +kernel
theorem dX4_pour_119 : decode cX4_pour 119 = .ok (.aload_n 0, 1) := by decide +kernel
theorem dX4_pour_120 : decode cX4_pour 120 = .ok (.iload_n 2, 1) := by decide +kernel
theorem dX4_pour_121 : decode cX4_pour 121 = .ok (.iload 4, 2) := by decide +kernel
theorem dX4_pour_123 : decode cX4_pour 123 = .ok (.invokevirtual 118, 3) := by decide +kernel
theorem dX4_pour_126 : decode cX4_pour 126 = .ok (.goto 4, 3) := by decide +kernel
theorem dX4_pour_129 : decode cX4_pour 129 = .ok (.iconst 0, 1) := by decide +kernel
theorem dX4_pour_130 : decode cX4_pour 130 = .ok (.iadd, 1) := by decide +kernel
theorem dX4_pour_131 : decode cX4_pour 131 = .ok (.putfield 195, 3) := by decide +kernel
theorem dX4_pour_134 : decode cX4_pour 134 = .ok (.aload_n 0, 1) := by decide +kernel
theorem dX4_pour_135 : decode cX4_pour 135 = .ok (.getfield 28, 3) := by decide +kernel
theorem dX4_pour_138 : decode cX4_pour 138 = .ok (.iload_n 2, 1) := by decide +kernel
theorem dX4_pour_139 : decode cX4_pour 139 = .ok (.iload 4, 2) := by decide +kernel
theorem dX4_pour_141 : decode cX4_pour 141 = .ok (.iastore, 1) := by decide +kernel
theorem dX4_pour_142 : decode cX4_pour 142 = .ok (.aload_n 0, 1) := by decide +kernel
theorem dX4_pour_143 : decode cX4_pour 143 = .ok (.getfield 31, 3) := by decide +kernel
theorem dX4_pour_146 : decode cX4_pour 146 = .ok (.iload_n 2, 1) := by decide +kernel
theorem dX4_pour_147 : decode cX4_pour 147 = .ok (.dup2, 1) := by decide +kernel
theorem dX4_pour_148 : decode cX4_pour 148 = .ok (.iaload, 1) := by decide +kernel
theorem dX4_pour_149 : decode cX4_pour 149 = .ok (.iload_n 3, 1) := by decide +kernel
theorem dX4_pour_150 : decode cX4_pour 150 = .ok (.iadd, 1) := by decide +kernel
theorem dX4_pour_151 : decode cX4_pour 151 = .ok (.iastore, 1) := by decide +kernel
theorem dX4_pour_152 : decode cX4_pour 152 = .ok (.aload_n 0, 1) := by decide +kernel
theorem dX4_pour_153 : decode cX4_pour 153 = .ok (.getfield 31, 3) := by decide +kernel
theorem dX4_pour_156 : decode cX4_pour 156 = .ok (.iload_n 1, 1) := by decide +kernel
theorem dX4_pour_157 : decode cX4_pour 157 = .ok (.dup2, 1) := by decide +kernel
theorem dX4_pour_158 : decode cX4_pour 158 = .ok (.iaload, 1) := by decide +kernel
theorem dX4_pour_159 : decode cX4_pour 159 = .ok (.iload_n 3, 1) := by decide +kernel
theorem dX4_pour_160 : decode cX4_pour 160 = .ok (.isub, 1) := by decide +kernel
theorem dX4_pour_161 : decode cX4_pour 161 = .ok (.iastore, 1) := by decide +kernel
theorem dX4_pour_162 : decode cX4_pour 162 = .ok (.aload_n 0, 1) := by decide +kernel
theorem dX4_pour_163 : decode cX4_pour 163 = .ok (.getfield 31, 3) := by decide +kernel
theorem dX4_pour_166 : decode cX4_pour 166 = .ok (.iload_n 1, 1) := by decide +kernel
theorem dX4_pour_167 : decode cX4_pour 167 = .ok (.iaload, 1) := by decide +kernel
theorem dX4_pour_168 : decode cX4_pour 168 = .ok (.ifCond .ne 8, 3) := by decide +kernel
theorem dX4_pour_171 : decode cX4_pour 171 = .ok (.aload_n 0, 1) := by decide +kernel
theorem dX4_pour_172 : decode cX4_pour 172 = .ok (.iload_n 1, 1) := by decide +kernel
theorem dX4_pour_173 : decode cX4_pour 173 = .ok (.invokevirtual 198, 3) := by decide +kernel
theorem dX4_pour_176 : decode cX4_pour 176 = .ok (.aload_n 0, 1) := by decide +kernel
theorem dX4_pour_177 : decode cX4_pour 177 = .ok (.getfield 31, 3) := by decide +kernel
theorem dX4_pour_180 : decode cX4_pour 180 = .ok (.iload_n 2, 1) := by decide +kernel
theorem dX4_pour_181 : decode cX4_pour 181 = .ok (.iaload, 1) := by decide +kernel
theorem dX4_pour_182 : decode cX4_pour 182 = .ok (.ireturn, 1) := by decide +kernel
theorem dX4_many_0 : decode cX4_many 0 = .ok (.iload_n 1, 1) := by decide +kernel
theorem dX4_many_1 : decode cX4_many 1 = .ok (.tableswitch 70 0 4 #[35, 40, 45, 57, 62], 35) := by decide +kernel
theorem dX4_many_36 : decode cX4_many 36 = .ok (.aload_n 0, 1) := by decide +kernel
theorem dX4_many_37 : decode cX4_many 37 = .ok (.getfield 75, 3) := by decide +kernel
theorem dX4_many_40 : decode cX4_many 40 = .ok (.ireturn, 1) := by decide +kernel
theorem dX4_many_41 : decode cX4_many 41 = .ok (.aload_n 0, 1) := by decide +kernel
theorem dX4_many_42 : decode cX4_many 42 = .ok (.getfield 92, 3) := by decide +kernel
theorem dX4_many_45 : decode cX4_many 45 = .ok (.ireturn, 1) := by decide +kernel
theorem dX4_many_46 : decode cX4_many 46 = .ok (.aload_n 0, 1) := by decide +kernel
theorem dX4_many_47 : decode cX4_many 47 = .ok (.getfield 75, 3) := by decide +kernel
theorem dX4_many_50 : decode cX4_many 50 = .ok (.aload_n 0, 1) := by decide +kernel
theorem dX4_many_51 : decode cX4_many 51 = .ok (.bipush (-9), 2) := by decide +kernel
theorem dX4_many_53 : decode cX4_many 53 = .ok (.invokevirtual 98, 3) := by decide +kernel
theorem dX4_many_56 : decode cX4_many 56 = .ok (.isub, 1) := by decide +kernel
theorem dX4_many_57 : decode cX4_many 57 = .ok (.ireturn, 1) := by decide +kernel
theorem dX4_many_58 : decode cX4_many 58 = .ok (.aload_n 0, 1) := by decide +kernel
theorem dX4_many_59 : decode cX4_many 59 = .ok (.getfield 195, 3) := by decide +kernel
theorem dX4_many_62 : decode cX4_many 62 = .ok (.ireturn, 1) := by decide +kernel
theorem dX4_many_63 : decode cX4_many 63 = .ok (.aload_n 0, 1) := by decide +kernel
theorem dX4_many_64 : decode cX4_many 64 = .ok (.invokevirtual 204, 3) := by decide +kernel
theorem dX4_many_67 : decode cX4_many 67 = .ok (.ldc 159, 2) := by decide +kernel
theorem dX4_many_69 : decode cX4_many 69 = .ok (.iadd, 1) := by decide +kernel
theorem dX4_many_70 : decode cX4_many 70 = .ok (.ireturn, 1) := by decide +kernel
theorem dX4_many_71 : decode cX4_many 71 = .ok (.bipush (-2), 2) := by decide +kernel
theorem dX4_many_73 : decode cX4_many 73 = .ok (.ireturn, 1) := by decide +kernel
theorem dX4_heldList_0 : decode cX4_heldList 0 = .ok (.iconst 0, 1) := by decide +kernel
theorem dX4_heldList_1 : decode cX4_heldList 1 = .ok (.istore_n 1, 1) := by decide +kernel
theorem dX4_heldList_2 : decode cX4_heldList 2 = .ok (.iconst 0, 1) := by decide +kernel
theorem dX4_heldList_3 : decode cX4_heldList 3 = .ok (.istore_n 2, 1) := by decide +kernel
theorem dX4_heldList_4 : decode cX4_heldList 4 = .ok (.iload_n 2, 1) := by decide +kernel
theorem dX4_heldList_5 : decode cX4_heldList 5 = .ok (.aload_n 0, 1) := by decide +kernel
theorem dX4_heldList_6 : decode cX4_heldList 6 = .ok (.getfield 75, 3) := by decide +kernel
theorem dX4_heldList_9 : decode cX4_heldList 9 = .ok (.if_icmp .ge 25, 3) := by decide +kernel
theorem dX4_heldList_12 : decode cX4_heldList 12 = .ok (.iload_n 1, 1) := by decide +kernel
theorem dX4_heldList_13 : decode cX4_heldList 13 = .ok (.aload_n 0, 1) := by decide +kernel
theorem dX4_heldList_14 : decode cX4_heldList 14 = .ok (.getfield 31, 3) := by decide +kernel
theorem dX4_heldList_17 : decode cX4_heldList 17 = .ok (.iload_n 2, 1) := by decide +kernel
theorem dX4_heldList_18 : decode cX4_heldList 18 = .ok (.iaload, 1) := by decide +kernel
theorem dX4_heldList_19 : decode cX4_heldList 19 = .ok (.aload_n 0, 1) := by decide +kernel
theorem dX4_heldList_20 : decode cX4_heldList 20 = .ok (.getfield 16, 3) := by decide +kernel
theorem dX4_heldList_23 : decode cX4_heldList 23 = .ok (.iload_n 2, 1) := by decide +kernel
theorem dX4_heldList_24 : decode cX4_heldList 24 = .ok (.iaload, 1) := by decide +kernel
theorem dX4_heldList_25 : decode cX4_heldList 25 = .ok (.imul, 1) := by decide +kernel
theorem dX4_heldList_26 : decode cX4_heldList 26 = .ok (.iadd, 1) := by decide +kernel
theorem dX4_heldList_27 : decode cX4_heldList 27 = .ok (.istore_n 1, 1) := by decide +kernel
theorem dX4_heldList_28 : decode cX4_heldList 28 = .ok (.iinc 2 1, 3) := by decide +kernel
theorem dX4_heldList_31 : decode cX4_heldList 31 = .ok (.goto (-27), 3) := by decide +kernel
theorem dX4_heldList_34 : decode cX4_heldList 34 = .ok (.iload_n 1, 1) := by decide +kernel
theorem dX4_heldList_35 : decode cX4_heldList 35 = .ok (.ireturn, 1) := by decide +kernel
end
section
theorem dX3_init_0 : decode cX3_init 0 = .ok (.aload_n 0, 1) := by decide +kernel
theorem dX3_init_1 : decode cX3_init 1 = .ok (.invokespecial 3, 3) := by decide +kernel
theorem dX3_init_4 : decode cX3_init 4 = .ok (.aload_n 0, 1) := by decide +kernel
theorem dX3_init_5 : decode cX3_init 5 = .ok (.bipush 6, 2) := by decide +kernel
theorem dX3_init_7 : decode cX3_init 7 = .ok (.anewarray 9, 3) := by decide +kernel
theorem dX3_init_10 : decode cX3_init 10 = .ok (.putfield 11, 3) := by decide +kernel
theorem dX3_init_13 : decode cX3_init 13 = .ok (.aload_n 0, 1) := by decide +kernel
theorem dX3_init_14 : decode cX3_init 14 = .ok (.iconst 4, 1) := by decide +kernel
theorem dX3_init_15 : decode cX3_init 15 = .ok (.anewarray 15, 3) := by decide +kernel
theorem dX3_init_18 : decode cX3_init 18 = .ok (.putfield 17, 3) := by decide +kernel
theorem dX3_init_21 : decode cX3_init 21 = .ok (.aload_n 0, 1) := by decide +kernel
theorem dX3_init_22 : decode cX3_init 22 = .ok (.bipush 64, 2) := by decide +kernel
theorem dX3_init_24 : decode cX3_init 24 = .ok (.newarray .int, 2) := by decide +kernel
theorem dX3_init_26 : decode cX3_init 26 = .ok (.putfield 21, 3) := by decide +kernel
theorem dX3_init_29 : decode cX3_init 29 = .ok (.aload_n 0, 1) := by decide +kernel
theorem dX3_init_30 : decode cX3_init 30 = .ok (.new 25, 3) := by decide +kernel
theorem dX3_init_33 : decode cX3_init 33 = .ok (.dup, 1) := by decide +kernel
theorem dX3_init_34 : decode cX3_init 34 = .ok (.invokespecial 27, 3) := by decide +kernel
theorem dX3_init_37 : decode cX3_init 37 = .ok (.putfield 28, 3) := by decide +kernel
theorem dX3_init_40 : decode cX3_init 40 = .ok (.aload_n 0, 1) := by decide +kernel
theorem dX3_init_41 : decode cX3_init 41 = .ok (.bipush 6, 2) := by decide +kernel
theorem dX3_init_43 : decode cX3_init 43 = .ok (.newarray .int, 2) := by decide +kernel
theorem dX3_init_45 : decode cX3_init 45 = .ok (.putfield 32, 3) := by decide +kernel
theorem dX3_init_48 : decode cX3_init 48 = .ok (.aload_n 0, 1) := by decide +kernel
theorem dX3_init_49 : decode cX3_init 49 = .ok (.bipush 6, 2) := by decide +kernel
theorem dX3_init_51 : decode cX3_init 51 = .ok (.newarray .int, 2) := by decide +kernel
theorem dX3_init_53 : decode cX3_init 53 = .ok (.putfield 35, 3) := by decide +kernel
theorem dX3_init_56 : decode cX3_init 56 = .ok (.aload_n 0, 1) := by decide +kernel
theorem dX3_init_57 : decode cX3_init 57 = .ok (.iconst 4, 1) := by decide +kernel
theorem dX3_init_58 : decode cX3_init 58 = .ok (.newarray .int, 2) := by decide +kernel
theorem dX3_init_60 : decode cX3_init 60 = .ok (.putfield 38, 3) := by decide +kernel
theorem dX3_init_63 : decode cX3_init 63 = .ok (.aload_n 0, 1) := by decide +kernel
theorem dX3_init_64 : decode cX3_init 64 = .ok (.iconst 0, 1) := by decide +kernel
theorem dX3_init_65 : decode cX3_init 65 = .ok (.putfield 41, 3) := by decide +kernel
theorem dX3_init_68 : decode cX3_init 68 = .ok (.aload_n 0, 1) := by decide +kernel
theorem dX3_init_69 : decode cX3_init 69 = .ok (.iconst 0, 1) := by decide +kernel
theorem dX3_init_70 : decode cX3_init 70 = .ok (.putfield 45, 3) := by decide +kernel
theorem dX3_init_73 : decode cX3_init 73 = .ok (.aload_n 0, 1) := by decide +kernel
theorem dX3_init_74 : decode cX3_init 74 = .ok (.sipush 9999, 3) := by decide +kernel
theorem dX3_init_77 : decode cX3_init 77 = .ok (.putfield 48, 3) := by decide +kernel
theorem dX3_init_80 : decode cX3_init 80 = .ok (.aload_n 0, 1) := by decide +kernel
theorem dX3_init_81 : decode cX3_init 81 = .ok (.iconst 0, 1) := by decide +kernel
theorem dX3_init_82 : decode cX3_init 82 = .ok (.putfield 51, 3) := by decide +kernel
theorem dX3_init_85 : decode cX3_init 85 = .ok (.aload_n 0, 1) := by decide +kernel
theorem dX3_init_86 : decode cX3_init 86 = .ok (.iconst 0, 1) := by decide +kernel
theorem dX3_init_87 : decode cX3_init 87 = .ok (.putfield 54, 3) := by decide +kernel
theorem dX3_init_90 : decode cX3_init 90 = .ok (.iconst 0, 1) := by decide +kernel
theorem dX3_init_91 : decode cX3_init 91 = .ok (.istore_n 1, 1) := by decide +kernel
theorem dX3_init_92 : decode cX3_init 92 = .ok (.iload_n 1, 1) := by decide +kernel
theorem dX3_init_93 : decode cX3_init 93 = .ok (.bipush 6, 2) := by decide +kernel
theorem dX3_init_95 : decode cX3_init 95 = .ok (.if_icmp .ge 30, 3) := by decide +kernel
theorem dX3_init_98 : decode cX3_init 98 = .ok (.aload_n 0, 1) := by decide +kernel
theorem dX3_init_99 : decode cX3_init 99 = .ok (.getfield 11, 3) := by decide +kernel
theorem dX3_init_102 : decode cX3_init 102 = .ok (.iload_n 1, 1) := by decide +kernel
theorem dX3_init_103 : decode cX3_init 103 = .ok (.new 9, 3) := by decide +kernel
theorem dX3_init_106 : decode cX3_init 106 = .ok (.dup, 1) := by decide +kernel
theorem dX3_init_107 : decode cX3_init 107 = .ok (.invokespecial 58, 3) := by decide +kernel
theorem dX3_init_110 : decode cX3_init 110 = .ok (.aastore, 1) := by decide +kernel
theorem dX3_init_111 : decode cX3_init 111 = .ok (.aload_n 0, 1) := by decide +kernel
theorem dX3_init_112 : decode cX3_init 112 = .ok (.getfield 32, 3) := by decide +kernel
theorem dX3_init_115 : decode cX3_init 115 = .ok (.iload_n 1, 1) := by decide +kernel
theorem dX3_init_116 : decode cX3_init 116 = .ok (.bipush (-9), 2) := by decide +kernel
theorem dX3_init_118 : decode cX3_init 118 = .ok (.iastore, 1) := by decide +kernel
theorem dX3_init_119 : decode cX3_init 119 = .ok (.iinc 1 1, 3) := by decide +kernel
theorem dX3_init_122 : decode cX3_init 122 = .ok (.goto (-30), 3) := by decide +kernel
theorem dX3_init_125 : decode cX3_init 125 = .ok (.iconst 0, 1) := by decide +kernel
theorem dX3_init_126 : decode cX3_init 126 = .ok (.istore_n 1, 1) := by decide +kernel
theorem dX3_init_127 : decode cX3_init 127 = .ok (.iload_n 1, 1) := by decide +kernel
theorem dX3_init_128 : decode cX3_init 128 = .ok (.iconst 4, 1) := by decide +kernel
theorem dX3_init_129 : decode cX3_init 129 = .ok (.if_icmp .ge 22, 3) := by decide +kernel
theorem dX3_init_132 : decode cX3_init 132 = .ok (.aload_n 0, 1) := by decide +kernel
theorem dX3_init_133 : decode cX3_init 133 = .ok (.getfield 17, 3) := by decide +kernel
theorem dX3_init_136 : decode cX3_init 136 = .ok (.iload_n 1, 1) := by decide +kernel
theorem dX3_init_137 : decode cX3_init 137 = .ok (.new 15, 3) := by decide +kernel
theorem dX3_init_140 : decode cX3_init 140 = .ok (.dup, 1) := by decide +kernel
theorem dX3_init_141 : decode cX3_init 141 = .ok (.invokespecial 59, 3) := by decide +kernel
theorem dX3_init_144 : decode cX3_init 144 = .ok (.aastore, 1) := by decide +kernel
theorem dX3_init_145 : decode cX3_init 145 = .ok (.iinc 1 1, 3) := by decide +kernel
theorem dX3_init_148 : decode cX3_init 148 = .ok (.goto (-21), 3) := by decide +kernel
theorem dX3_init_151 : decode cX3_init 151 = .ok (.return_, 1) := by decide +kernel
theorem dX3_tank_0 : decode cX3_tank 0 = .ok (.iload_n 1, 1) := by decide +kernel
theorem dX3_tank_1 : decode cX3_tank 1 = .ok (.iconst 1, 1) := by decide +kernel
theorem dX3_tank_2 : decode cX3_tank 2 = .ok (.bipush 99, 2) := by decide +kernel
theorem dX3_tank_4 : decode cX3_tank 4 = .ok (.invokestatic 60, 3) := by decide +kernel
theorem dX3_tank_7 : decode cX3_tank 7 = .ok (.ifCond .eq 23, 3) := by decide +kernel
theorem dX3_tank_10 : decode cX3_tank 10 = .ok (.iload_n 2, 1) := by decide +kernel
theorem dX3_tank_11 : decode cX3_tank 11 = .ok (.iconst 0, 1) := by decide +kernel
theorem dX3_tank_12 : decode cX3_tank 12 = .ok (.iconst 3, 1) := by decide +kernel
theorem dX3_tank_13 : decode cX3_tank 13 = .ok (.invokestatic 60, 3) := by decide +kernel
theorem dX3_tank_16 : decode cX3_tank 16 = .ok (.ifCond .eq 14, 3) := by decide +kernel
theorem dX3_tank_19 : decode cX3_tank 19 = .ok (.iload_n 3, 1) := by decide +kernel
theorem dX3_tank_20 : decode cX3_tank 20 = .ok (.bipush (-9), 2) := by decide +kernel
theorem dX3_tank_22 : decode cX3_tank 22 = .ok (.bipush 9, 2) := by decide +kernel
theorem dX3_tank_24 : decode cX3_tank 24 = .ok (.invokestatic 60, 3) := by decide +kernel
theorem dX3_tank_27 : decode cX3_tank 27 = .ok (.ifCond .ne 6, 3) := by decide +kernel
theorem dX3_tank_30 : decode cX3_tank 30 = .ok (.bipush (-2), 2) := by decide +kernel
theorem dX3_tank_32 : decode cX3_tank 32 = .ok (.ireturn, 1) := by decide +kernel
theorem dX3_tank_33 : decode cX3_tank 33 = .ok (.aload_n 0, 1) := by decide +kernel
theorem dX3_tank_34 : decode cX3_tank 34 = .ok (.getfield 41, 3) := by decide +kernel
theorem dX3_tank_37 : decode cX3_tank 37 = .ok (.bipush 6, 2) := by decide +kernel
theorem dX3_tank_39 : decode cX3_tank 39 = .ok (.if_icmp .lt 6, 3) := by decide +kernel
theorem dX3_tank_42 : decode cX3_tank 42 = .ok (.bipush (-4), 2) := by decide +kernel
theorem dX3_tank_44 : decode cX3_tank 44 = .ok (.ireturn, 1) := by decide +kernel
theorem dX3_tank_45 : decode cX3_tank 45 = .ok (.aload_n 0, 1) := by decide +kernel
theorem dX3_tank_46 : decode cX3_tank 46 = .ok (.getfield 41, 3) := by decide +kernel
theorem dX3_tank_49 : decode cX3_tank 49 = .ok (.istore 4, 2) := by decide +kernel
theorem dX3_tank_51 : decode cX3_tank 51 = .ok (.aload_n 0, 1) := by decide +kernel
theorem dX3_tank_52 : decode cX3_tank 52 = .ok (.getfield 11, 3) := by decide +kernel
theorem dX3_tank_55 : decode cX3_tank 55 = .ok (.iload 4, 2) := by decide +kernel
theorem dX3_tank_57 : decode cX3_tank 57 = .ok (.aaload, 1) := by decide +kernel
theorem dX3_tank_58 : decode cX3_tank 58 = .ok (.astore 5, 2) := by decide +kernel
theorem dX3_tank_60 : decode cX3_tank 60 = .ok (.aload 5, 2) := by decide +kernel
theorem dX3_tank_62 : decode cX3_tank 62 = .ok (.iload_n 1, 1) := by decide +kernel
theorem dX3_tank_63 : decode cX3_tank 63 = .ok (.putfield 64, 3) := by decide +kernel
theorem dX3_tank_66 : decode cX3_tank 66 = .ok (.aload 5, 2) := by decide +kernel
theorem dX3_tank_68 : decode cX3_tank 68 = .ok (.iload_n 2, 1) := by decide +kernel
theorem dX3_tank_69 : decode cX3_tank 69 = .ok (.putfield 67, 3) := by decide +kernel
theorem dX3_tank_72 : decode cX3_tank 72 = .ok (.aload 5, 2) := by decide +kernel
theorem dX3_tank_74 : decode cX3_tank 74 = .ok (.iload_n 3, 1) := by decide +kernel
theorem dX3_tank_75 : decode cX3_tank 75 = .ok (.putfield 70, 3) := by decide +kernel
theorem dX3_tank_78 : decode cX3_tank 78 = .ok (.aload_n 0, 1) := by decide +kernel
theorem dX3_tank_79 : decode cX3_tank 79 = .ok (.iload 4, 2) := by decide +kernel
theorem dX3_tank_81 : decode cX3_tank 81 = .ok (.iconst 1, 1) := by decide +kernel
theorem dX3_tank_82 : decode cX3_tank 82 = .ok (.iadd, 1) := by decide +kernel
theorem dX3_tank_83 : decode cX3_tank 83 = .ok (.putfield 41, 3) := by decide +kernel
theorem dX3_tank_86 : decode cX3_tank 86 = .ok (.aload_n 0, 1) := by decide +kernel
theorem dX3_tank_87 : decode cX3_tank 87 = .ok (.iconst 0, 1) := by decide +kernel
theorem dX3_tank_88 : decode cX3_tank 88 = .ok (.putfield 54, 3) := by decide +kernel
theorem dX3_tank_91 : decode cX3_tank 91 = .ok (.iload 4, 2) := by decide +kernel
theorem dX3_tank_93 : decode cX3_tank 93 = .ok (.ireturn, 1) := by decide +kernel
theorem dX3_neighbours_0 : decode cX3_neighbours 0 = .ok (.aload_n 0, 1) := by decide +kernel
theorem dX3_neighbours_1 : decode cX3_neighbours 1 = .ok (.iload_n 1, 1) := by decide +kernel
theorem dX3_neighbours_2 : decode cX3_neighbours 2 = .ok (.iload_n 2, 1) := by decide +kernel
theorem dX3_neighbours_3 : decode cX3_neighbours 3 = .ok (.invokevirtual 73, 3) := by decide +kernel
theorem dX3_neighbours_6 : decode cX3_neighbours 6 = .ok (.ifCond .ne 5, 3) := by decide +kernel
theorem dX3_neighbours_9 : decode cX3_neighbours 9 = .ok (.iconst (-1), 1) := by decide +kernel
theorem dX3_neighbours_10 : decode cX3_neighbours 10 = .ok (.ireturn, 1) := by decide +kernel
theorem dX3_neighbours_11 : decode cX3_neighbours 11 = .ok (.aload_n 0, 1) := by decide +kernel
theorem dX3_neighbours_12 : decode cX3_neighbours 12 = .ok (.getfield 11, 3) := by decide +kernel
theorem dX3_neighbours_15 : decode cX3_neighbours 15 = .ok (.iload_n 1, 1) := by decide +kernel
theorem dX3_neighbours_16 : decode cX3_neighbours 16 = .ok (.aaload, 1) := by decide +kernel
theorem dX3_neighbours_17 : decode cX3_neighbours 17 = .ok (.getfield 77, 3) := by decide +kernel
theorem dX3_neighbours_20 : decode cX3_neighbours 20 = .ok (.iload_n 2, 1) := by decide +kernel
theorem dX3_neighbours_21 : decode cX3_neighbours 21 = .ok (.invokestatic 80, 3) := by decide +kernel
theorem dX3_neighbours_24 : decode cX3_neighbours 24 = .ok (.iload_n 3, 1) := by decide +kernel
theorem dX3_neighbours_25 : decode cX3_neighbours 25 = .ok (.if_icmp .ne 5, 3) := by decide +kernel
theorem dX3_neighbours_28 : decode cX3_neighbours 28 = .ok (.iconst 0, 1) := by decide +kernel
theorem dX3_neighbours_29 : decode cX3_neighbours 29 = .ok (.ireturn, 1) := by decide +kernel
theorem dX3_neighbours_30 : decode cX3_neighbours 30 = .ok (.aload_n 0, 1) := by decide +kernel
theorem dX3_neighbours_31 : decode cX3_neighbours 31 = .ok (.getfield 11, 3) := by decide +kernel
theorem dX3_neighbours_34 : decode cX3_neighbours 34 = .ok (.iload_n 1, 1) := by decide +kernel
theorem dX3_neighbours_35 : decode cX3_neighbours 35 = .ok (.aaload, 1) := by decide +kernel
theorem dX3_neighbours_36 : decode cX3_neighbours 36 = .ok (.dup, 1) := by decide +kernel
theorem dX3_neighbours_37 : decode cX3_neighbours 37 = .ok (.getfield 77, 3) := by decide +kernel
theorem dX3_neighbours_40 : decode cX3_neighbours 40 = .ok (.iconst 1, 1) := by decide +kernel
theorem dX3_neighbours_41 : decode cX3_neighbours 41 = .ok (.iload_n 2, 1) := by decide +kernel
theorem dX3_neighbours_42 : decode cX3_neighbours 42 = .ok (.ishl, 1) := by decide +kernel
theorem dX3_neighbours_43 : decode cX3_neighbours 43 = .ok (.ixor, 1) := by decide +kernel
theorem dX3_neighbours_44 : decode cX3_neighbours 44 = .ok (.putfield 77, 3) := by decide +kernel
theorem dX3_neighbours_47 : decode cX3_neighbours 47 = .ok (.aload_n 0, 1) := by decide +kernel
theorem dX3_neighbours_48 : decode cX3_neighbours 48 = .ok (.getfield 11, 3) := by decide +kernel
theorem dX3_neighbours_51 : decode cX3_neighbours 51 = .ok (.iload_n 2, 1) := by decide +kernel
theorem dX3_neighbours_52 : decode cX3_neighbours 52 = .ok (.aaload, 1) := by decide +kernel
theorem dX3_neighbours_53 : decode cX3_neighbours 53 = .ok (.dup, 1) := by decide +kernel
theorem dX3_neighbours_54 : decode cX3_neighbours 54 = .ok (.getfield 77, 3) := by decide +kernel
theorem dX3_neighbours_57 : decode cX3_neighbours 57 = .ok (.iconst 1, 1) := by decide +kernel
theorem dX3_neighbours_58 : decode cX3_neighbours 58 = .ok (.iload_n 1, 1) := by decide +kernel
theorem dX3_neighbours_59 : decode cX3_neighbours 59 = .ok (.ishl, 1) := by decide +kernel
theorem dX3_neighbours_60 : decode cX3_neighbours 60 = .ok (.ixor, 1) := by decide +kernel
theorem dX3_neighbours_61 : decode cX3_neighbours 61 = .ok (.putfield 77, 3) := by decide +kernel
theorem dX3_neighbours_64 : decode cX3_neighbours 64 = .ok (.aload_n 0, 1) := by decide +kernel
theorem dX3_neighbours_65 : decode cX3_neighbours 65 = .ok (.iconst 0, 1) := by decide +kernel
theorem dX3_neighbours_66 : decode cX3_neighbours 66 = .ok (.putfield 54, 3) := by decide +kernel
theorem dX3_neighbours_69 : decode cX3_neighbours 69 = .ok (.iconst 1, 1) := by decide +kernel
theorem dX3_neighbours_70 : decode cX3_neighbours 70 = .ok (.ireturn, 1) := by decide +kernel
theorem dX3_latest_0 : decode cX3_latest 0 = .ok (.aload_n 0, 1) := by decide +kernel
theorem dX3_latest_1 : decode cX3_latest 1 = .ok (.iload_n 1, 1) := by decide +kernel
theorem dX3_latest_2 : decode cX3_latest 2 = .ok (.invokevirtual 83, 3) := by decide +kernel
theorem dX3_latest_5 : decode cX3_latest 5 = .ok (.ifCond .ne 5, 3) := by decide +kernel
theorem dX3_latest_8 : decode cX3_latest 8 = .ok (.iconst (-1), 1) := by decide +kernel
theorem dX3_latest_9 : decode cX3_latest 9 = .ok (.ireturn, 1) := by decide +kernel
theorem dX3_latest_10 : decode cX3_latest 10 = .ok (.iload_n 2, 1) := by decide +kernel
theorem dX3_latest_11 : decode cX3_latest 11 = .ok (.iconst 0, 1) := by decide +kernel
theorem dX3_latest_12 : decode cX3_latest 12 = .ok (.iconst 2, 1) := by decide +kernel
theorem dX3_latest_13 : decode cX3_latest 13 = .ok (.invokestatic 60, 3) := by decide +kernel
theorem dX3_latest_16 : decode cX3_latest 16 = .ok (.ifCond .eq 16, 3) := by decide +kernel
theorem dX3_latest_19 : decode cX3_latest 19 = .ok (.iload_n 3, 1) := by decide +kernel
theorem dX3_latest_20 : decode cX3_latest 20 = .ok (.bipush (-9), 2) := by decide +kernel
theorem dX3_latest_22 : decode cX3_latest 22 = .ok (.if_icmp .eq 13, 3) := by decide +kernel
theorem dX3_latest_25 : decode cX3_latest 25 = .ok (.iload_n 3, 1) := by decide +kernel
theorem dX3_latest_26 : decode cX3_latest 26 = .ok (.invokestatic 87, 3) := by decide +kernel
theorem dX3_latest_29 : decode cX3_latest 29 = .ok (.ifCond .ne 6, 3) := by decide +kernel
theorem dX3_latest_32 : decode cX3_latest 32 = .ok (.bipush (-2), 2) := by decide +kernel
theorem dX3_latest_34 : decode cX3_latest 34 = .ok (.ireturn, 1) := by decide +kernel
theorem dX3_latest_35 : decode cX3_latest 35 = .ok (.aload_n 0, 1) := by decide +kernel
theorem dX3_latest_36 : decode cX3_latest 36 = .ok (.getfield 11, 3) := by decide +kernel
theorem dX3_latest_39 : decode cX3_latest 39 = .ok (.iload_n 1, 1) := by decide +kernel
theorem dX3_latest_40 : decode cX3_latest 40 = .ok (.aaload, 1) := by decide +kernel
theorem dX3_latest_41 : decode cX3_latest 41 = .ok (.getfield 90, 3) := by decide +kernel
theorem dX3_latest_44 : decode cX3_latest 44 = .ok (.iload_n 2, 1) := by decide +kernel
theorem dX3_latest_45 : decode cX3_latest 45 = .ok (.iaload, 1) := by decide +kernel
theorem dX3_latest_46 : decode cX3_latest 46 = .ok (.istore 4, 2) := by decide +kernel
theorem dX3_latest_48 : decode cX3_latest 48 = .ok (.aload_n 0, 1) := by decide +kernel
theorem dX3_latest_49 : decode cX3_latest 49 = .ok (.getfield 11, 3) := by decide +kernel
theorem dX3_latest_52 : decode cX3_latest 52 = .ok (.iload_n 1, 1) := by decide +kernel
theorem dX3_latest_53 : decode cX3_latest 53 = .ok (.aaload, 1) := by decide +kernel
theorem dX3_latest_54 : decode cX3_latest 54 = .ok (.getfield 90, 3) := by decide +kernel
theorem dX3_latest_57 : decode cX3_latest 57 = .ok (.iload_n 2, 1) := by decide +kernel
theorem dX3_latest_58 : decode cX3_latest 58 = .ok (.iload_n 3, 1) := by decide +kernel
theorem dX3_latest_59 : decode cX3_latest 59 = .ok (.iastore, 1) := by decide +kernel
theorem dX3_latest_60 : decode cX3_latest 60 = .ok (.aload_n 0, 1) := by decide +kernel
theorem dX3_latest_61 : decode cX3_latest 61 = .ok (.iconst 0, 1) := by decide +kernel
theorem dX3_latest_62 : decode cX3_latest 62 = .ok (.putfield 54, 3) := by decide +kernel
theorem dX3_latest_65 : decode cX3_latest 65 = .ok (.iload 4, 2) := by decide +kernel
theorem dX3_latest_67 : decode cX3_latest 67 = .ok (.ireturn, 1) := by decide +kernel
theorem dX3_cargo_0 : decode cX3_cargo 0 = .ok (.iload_n 1, 1) := by decide +kernel
theorem dX3_cargo_1 : decode cX3_cargo 1 = .ok (.invokestatic 87, 3) := by decide +kernel
theorem dX3_cargo_4 : decode cX3_cargo 4 = .ok (.ifCond .ne 5, 3) := by decide +kernel
theorem dX3_cargo_7 : decode cX3_cargo 7 = .ok (.iconst (-1), 1) := by decide +kernel
theorem dX3_cargo_8 : decode cX3_cargo 8 = .ok (.ireturn, 1) := by decide +kernel
theorem dX3_cargo_9 : decode cX3_cargo 9 = .ok (.iload_n 2, 1) := by decide +kernel
theorem dX3_cargo_10 : decode cX3_cargo 10 = .ok (.invokestatic 93, 3) := by decide +kernel
theorem dX3_cargo_13 : decode cX3_cargo 13 = .ok (.ifCond .eq 37, 3) := by decide +kernel
theorem dX3_cargo_16 : decode cX3_cargo 16 = .ok (.iload_n 3, 1) := by decide +kernel
theorem dX3_cargo_17 : decode cX3_cargo 17 = .ok (.iconst 0, 1) := by decide +kernel
theorem dX3_cargo_18 : decode cX3_cargo 18 = .ok (.bipush 15, 2) := by decide +kernel
theorem dX3_cargo_20 : decode cX3_cargo 20 = .ok (.invokestatic 60, 3) := by decide +kernel
theorem dX3_cargo_23 : decode cX3_cargo 23 = .ok (.ifCond .eq 27, 3) := by decide +kernel
theorem dX3_cargo_26 : decode cX3_cargo 26 = .ok (.iload 4, 2) := by decide +kernel
theorem dX3_cargo_28 : decode cX3_cargo 28 = .ok (.invokestatic 96, 3) := by decide +kernel
theorem dX3_cargo_31 : decode cX3_cargo 31 = .ok (.ifCond .eq 19, 3) := by decide +kernel
theorem dX3_cargo_34 : decode cX3_cargo 34 = .ok (.iload 5, 2) := by decide +kernel
theorem dX3_cargo_36 : decode cX3_cargo 36 = .ok (.invokestatic 96, 3) := by decide +kernel
theorem dX3_cargo_39 : decode cX3_cargo 39 = .ok (.ifCond .eq 11, 3) := by decide +kernel
theorem dX3_cargo_42 : decode cX3_cargo 42 = .ok (.iload 6, 2) := by decide +kernel
theorem dX3_cargo_44 : decode cX3_cargo 44 = .ok (.invokestatic 96, 3) := by decide +kernel
theorem dX3_cargo_47 : decode cX3_cargo 47 = .ok (.ifCond .ne 6, 3) := by decide +kernel
theorem dX3_cargo_50 : decode cX3_cargo 50 = .ok (.bipush (-2), 2) := by decide +kernel
theorem dX3_cargo_52 : decode cX3_cargo 52 = .ok (.ireturn, 1) := by decide +kernel
theorem dX3_cargo_53 : decode cX3_cargo 53 = .ok (.aload_n 0, 1) := by decide +kernel
theorem dX3_cargo_54 : decode cX3_cargo 54 = .ok (.getfield 45, 3) := by decide +kernel
theorem dX3_cargo_57 : decode cX3_cargo 57 = .ok (.iconst 4, 1) := by decide +kernel
theorem dX3_cargo_58 : decode cX3_cargo 58 = .ok (.if_icmp .lt 6, 3) := by decide +kernel
theorem dX3_cargo_61 : decode cX3_cargo 61 = .ok (.bipush (-4), 2) := by decide +kernel
theorem dX3_cargo_63 : decode cX3_cargo 63 = .ok (.ireturn, 1) := by decide +kernel
theorem dX3_cargo_64 : decode cX3_cargo 64 = .ok (.aload_n 0, 1) := by decide +kernel
theorem dX3_cargo_65 : decode cX3_cargo 65 = .ok (.getfield 45, 3) := by decide +kernel
theorem dX3_cargo_68 : decode cX3_cargo 68 = .ok (.istore 7, 2) := by decide +kernel
theorem dX3_cargo_70 : decode cX3_cargo 70 = .ok (.aload_n 0, 1) := by decide +kernel
theorem dX3_cargo_71 : decode cX3_cargo 71 = .ok (.getfield 17, 3) := by decide +kernel
theorem dX3_cargo_74 : decode cX3_cargo 74 = .ok (.iload 7, 2) := by decide +kernel
theorem dX3_cargo_76 : decode cX3_cargo 76 = .ok (.aaload, 1) := by decide +kernel
theorem dX3_cargo_77 : decode cX3_cargo 77 = .ok (.astore 8, 2) := by decide +kernel
theorem dX3_cargo_79 : decode cX3_cargo 79 = .ok (.aload 8, 2) := by decide +kernel
theorem dX3_cargo_81 : decode cX3_cargo 81 = .ok (.iload_n 1, 1) := by decide +kernel
theorem dX3_cargo_82 : decode cX3_cargo 82 = .ok (.putfield 99, 3) := by decide +kernel
theorem dX3_cargo_85 : decode cX3_cargo 85 = .ok (.aload 8, 2) := by decide +kernel
theorem dX3_cargo_87 : decode cX3_cargo 87 = .ok (.iload_n 2, 1) := by decide +kernel
theorem dX3_cargo_88 : decode cX3_cargo 88 = .ok (.putfield 102, 3) := by decide +kernel
theorem dX3_cargo_91 : decode cX3_cargo 91 = .ok (.aload 8, 2) := by decide +kernel
theorem dX3_cargo_93 : decode cX3_cargo 93 = .ok (.iload_n 3, 1) := by decide +kernel
theorem dX3_cargo_94 : decode cX3_cargo 94 = .ok (.putfield 105, 3) := by decide +kernel
theorem dX3_cargo_97 : decode cX3_cargo 97 = .ok (.aload 8, 2) := by decide +kernel
theorem dX3_cargo_99 : decode cX3_cargo 99 = .ok (.iload 4, 2) := by decide +kernel
theorem dX3_cargo_101 : decode cX3_cargo 101 = .ok (.putfield 108, 3) := by decide +kernel
theorem dX3_cargo_104 : decode cX3_cargo 104 = .ok (.aload 8, 2) := by decide +kernel
theorem dX3_cargo_106 : decode cX3_cargo 106 = .ok (.iload 5, 2) := by decide +kernel
theorem dX3_cargo_108 : decode cX3_cargo 108 = .ok (.putfield 111, 3) := by decide +kernel
theorem dX3_cargo_111 : decode cX3_cargo 111 = .ok (.aload 8, 2) := by decide +kernel
theorem dX3_cargo_113 : decode cX3_cargo 113 = .ok (.iload 6, 2) := by decide +kernel
theorem dX3_cargo_115 : decode cX3_cargo 115 = .ok (.putfield 114, 3) := by decide +kernel
theorem dX3_cargo_118 : decode cX3_cargo 118 = .ok (.aload_n 0, 1) := by decide +kernel
theorem dX3_cargo_119 : decode cX3_cargo 119 = .ok (.iload 7, 2) := by decide +kernel
theorem dX3_cargo_121 : decode cX3_cargo 121 = .ok (.iconst 1, 1) := by decide +kernel
theorem dX3_cargo_122 : decode cX3_cargo 122 = .ok (.iadd, 1) := by decide +kernel
theorem dX3_cargo_123 : decode cX3_cargo 123 = .ok (.putfield 45, 3) := by decide +kernel
theorem dX3_cargo_126 : decode cX3_cargo 126 = .ok (.aload_n 0, 1) := by decide +kernel
theorem dX3_cargo_127 : decode cX3_cargo 127 = .ok (.iconst 0, 1) := by decide +kernel
theorem dX3_cargo_128 : decode cX3_cargo 128 = .ok (.putfield 54, 3) := by decide +kernel
theorem dX3_cargo_131 : decode cX3_cargo 131 = .ok (.iload 7, 2) := by decide +kernel
theorem dX3_cargo_133 : decode cX3_cargo 133 = .ok (.ireturn, 1) := by decide +kernel
theorem dX3_uncargo_0 : decode cX3_uncargo 0 = .ok (.aload_n 0, 1) := by decide +kernel
theorem dX3_uncargo_1 : decode cX3_uncargo 1 = .ok (.getfield 45, 3) := by decide +kernel
theorem dX3_uncargo_4 : decode cX3_uncargo 4 = .ok (.iconst 1, 1) := by decide +kernel
theorem dX3_uncargo_5 : decode cX3_uncargo 5 = .ok (.isub, 1) := by decide +kernel
theorem dX3_uncargo_6 : decode cX3_uncargo 6 = .ok (.istore_n 1, 1) := by decide +kernel
theorem dX3_uncargo_7 : decode cX3_uncargo 7 = .ok (.iload_n 1, 1) := by decide +kernel
theorem dX3_uncargo_8 : decode cX3_uncargo 8 = .ok (.ifCond .lt 11, 3) := by decide +kernel
theorem dX3_uncargo_11 : decode cX3_uncargo 11 = .ok (.aload_n 0, 1) := by decide +kernel
theorem dX3_uncargo_12 : decode cX3_uncargo 12 = .ok (.iload_n 1, 1) := by decide +kernel
theorem dX3_uncargo_13 : decode cX3_uncargo 13 = .ok (.invokevirtual 117, 3) := by decide +kernel
theorem dX3_uncargo_16 : decode cX3_uncargo 16 = .ok (.ifCond .le 6, 3) := by decide +kernel
theorem dX3_uncargo_19 : decode cX3_uncargo 19 = .ok (.bipush (-3), 2) := by decide +kernel
theorem dX3_uncargo_21 : decode cX3_uncargo 21 = .ok (.ireturn, 1) := by decide +kernel
theorem dX3_uncargo_22 : decode cX3_uncargo 22 = .ok (.iconst 0, 1) := by decide +kernel
theorem dX3_uncargo_23 : decode cX3_uncargo 23 = .ok (.istore_n 2, 1) := by decide +kernel
theorem dX3_uncargo_24 : decode cX3_uncargo 24 = .ok (.iload_n 2, 1) := by decide +kernel
theorem dX3_uncargo_25 : decode cX3_uncargo 25 = .ok (.bipush 6, 2) := by decide +kernel
theorem dX3_uncargo_27 : decode cX3_uncargo 27 = .ok (.if_icmp .ge 27, 3) := by decide +kernel
theorem dX3_uncargo_30 : decode cX3_uncargo 30 = .ok (.aload_n 0, 1) := by decide +kernel
theorem dX3_uncargo_31 : decode cX3_uncargo 31 = .ok (.getfield 32, 3) := by decide +kernel
theorem dX3_uncargo_34 : decode cX3_uncargo 34 = .ok (.iload_n 2, 1) := by decide +kernel
theorem dX3_uncargo_35 : decode cX3_uncargo 35 = .ok (.iaload, 1) := by decide +kernel
theorem dX3_uncargo_36 : decode cX3_uncargo 36 = .ok (.iload_n 1, 1) := by decide +kernel
theorem dX3_uncargo_37 : decode cX3_uncargo 37 = .ok (.if_icmp .ne 11, 3) := by decide +kernel
theorem dX3_uncargo_40 : decode cX3_uncargo 40 = .ok (.aload_n 0, 1) := by decide +kernel
theorem dX3_uncargo_41 : decode cX3_uncargo 41 = .ok (.getfield 32, 3) := by decide +kernel
theorem dX3_uncargo_44 : decode cX3_uncargo 44 = .ok (.iload_n 2, 1) := by decide +kernel
theorem dX3_uncargo_45 : decode cX3_uncargo 45 = .ok (.bipush (-9), 2) := by decide +kernel
theorem dX3_uncargo_47 : decode cX3_uncargo 47 = .ok (.iastore, 1) := by decide +kernel
theorem dX3_uncargo_48 : decode cX3_uncargo 48 = .ok (.iinc 2 1, 3) := by decide +kernel
theorem dX3_uncargo_51 : decode cX3_uncargo 51 = .ok (.goto (-27), 3) := by decide +kernel
theorem dX3_uncargo_54 : decode cX3_uncargo 54 = .ok (.aload_n 0, 1) := by decide +kernel
theorem dX3_uncargo_55 : decode cX3_uncargo 55 = .ok (.iload_n 1, 1) := by decide +kernel
theorem dX3_uncargo_56 : decode cX3_uncargo 56 = .ok (.putfield 45, 3) := by decide +kernel
theorem dX3_uncargo_59 : decode cX3_uncargo 59 = .ok (.aload_n 0, 1) := by decide +kernel
theorem dX3_uncargo_60 : decode cX3_uncargo 60 = .ok (.iconst 0, 1) := by decide +kernel
theorem dX3_uncargo_61 : decode cX3_uncargo 61 = .ok (.putfield 54, 3) := by decide +kernel
theorem dX3_uncargo_64 : decode cX3_uncargo 64 = .ok (.iload_n 1, 1) := by decide +kernel
theorem dX3_uncargo_65 : decode cX3_uncargo 65 = .ok (.ireturn, 1) := by decide +kernel
theorem dX3_amount_0 : decode cX3_amount 0 = .ok (.aload_n 0, 1) := by decide +kernel
theorem dX3_amount_1 : decode cX3_amount 1 = .ok (.iload_n 1, 1) := by decide +kernel
theorem dX3_amount_2 : decode cX3_amount 2 = .ok (.invokevirtual 121, 3) := by decide +kernel
theorem dX3_amount_5 : decode cX3_amount 5 = .ok (.ifCond .ne 5, 3) := by decide +kernel
theorem dX3_amount_8 : decode cX3_amount 8 = .ok (.iconst (-1), 1) := by decide +kernel
theorem dX3_amount_9 : decode cX3_amount 9 = .ok (.ireturn, 1) := by decide +kernel
theorem dX3_amount_10 : decode cX3_amount 10 = .ok (.iload_n 2, 1) := by decide +kernel
theorem dX3_amount_11 : decode cX3_amount 11 = .ok (.invokestatic 93, 3) := by decide +kernel
theorem dX3_amount_14 : decode cX3_amount 14 = .ok (.ifCond .ne 6, 3) := by decide +kernel
theorem dX3_amount_17 : decode cX3_amount 17 = .ok (.bipush (-2), 2) := by decide +kernel
theorem dX3_amount_19 : decode cX3_amount 19 = .ok (.ireturn, 1) := by decide +kernel
theorem dX3_amount_20 : decode cX3_amount 20 = .ok (.aload_n 0, 1) := by decide +kernel
theorem dX3_amount_21 : decode cX3_amount 21 = .ok (.iload_n 1, 1) := by decide +kernel
theorem dX3_amount_22 : decode cX3_amount 22 = .ok (.invokevirtual 117, 3) := by decide +kernel
theorem dX3_amount_25 : decode cX3_amount 25 = .ok (.ifCond .le 6, 3) := by decide +kernel
theorem dX3_amount_28 : decode cX3_amount 28 = .ok (.bipush (-3), 2) := by decide +kernel
theorem dX3_amount_30 : decode cX3_amount 30 = .ok (.ireturn, 1) := by decide +kernel
theorem dX3_amount_31 : decode cX3_amount 31 = .ok (.aload_n 0, 1) := by decide +kernel
theorem dX3_amount_32 : decode cX3_amount 32 = .ok (.getfield 17, 3) := by decide +kernel
theorem dX3_amount_35 : decode cX3_amount 35 = .ok (.iload_n 1, 1) := by decide +kernel
theorem dX3_amount_36 : decode cX3_amount 36 = .ok (.aaload, 1) := by decide +kernel
theorem dX3_amount_37 : decode cX3_amount 37 = .ok (.getfield 102, 3) := by decide +kernel
theorem dX3_amount_40 : decode cX3_amount 40 = .ok (.istore_n 3, 1) := by decide +kernel
theorem dX3_amount_41 : decode cX3_amount 41 = .ok (.aload_n 0, 1) := by decide +kernel
theorem dX3_amount_42 : decode cX3_amount 42 = .ok (.getfield 17, 3) := by decide +kernel
theorem dX3_amount_45 : decode cX3_amount 45 = .ok (.iload_n 1, 1) := by decide +kernel
theorem dX3_amount_46 : decode cX3_amount 46 = .ok (.aaload, 1) := by decide +kernel
theorem dX3_amount_47 : decode cX3_amount 47 = .ok (.iload_n 2, 1) := by decide +kernel
theorem dX3_amount_48 : decode cX3_amount 48 = .ok (.putfield 102, 3) := by decide +kernel
theorem dX3_amount_51 : decode cX3_amount 51 = .ok (.aload_n 0, 1) := by decide +kernel
theorem dX3_amount_52 : decode cX3_amount 52 = .ok (.iconst 0, 1) := by decide +kernel
theorem dX3_amount_53 : decode cX3_amount 53 = .ok (.putfield 54, 3) := by decide +kernel
theorem dX3_amount_56 : decode cX3_amount 56 = .ok (.iload_n 3, 1) := by decide +kernel
theorem dX3_amount_57 : decode cX3_amount 57 = .ok (.ireturn, 1) := by decide +kernel
theorem dX3_washes_0 : decode cX3_washes 0 = .ok (.iload_n 1, 1) := by decide +kernel
theorem dX3_washes_1 : decode cX3_washes 1 = .ok (.invokestatic 87, 3) := by decide +kernel
theorem dX3_washes_4 : decode cX3_washes 4 = .ok (.ifCond .eq 10, 3) := by decide +kernel
theorem dX3_washes_7 : decode cX3_washes 7 = .ok (.iload_n 2, 1) := by decide +kernel
theorem dX3_washes_8 : decode cX3_washes 8 = .ok (.invokestatic 87, 3) := by decide +kernel
theorem dX3_washes_11 : decode cX3_washes 11 = .ok (.ifCond .ne 5, 3) := by decide +kernel
theorem dX3_washes_14 : decode cX3_washes 14 = .ok (.iconst (-1), 1) := by decide +kernel
theorem dX3_washes_15 : decode cX3_washes 15 = .ok (.ireturn, 1) := by decide +kernel
theorem dX3_washes_16 : decode cX3_washes 16 = .ok (.iload_n 3, 1) := by decide +kernel
theorem dX3_washes_17 : decode cX3_washes 17 = .ok (.iconst 0, 1) := by decide +kernel
theorem dX3_washes_18 : decode cX3_washes 18 = .ok (.iconst 3, 1) := by decide +kernel
theorem dX3_washes_19 : decode cX3_washes 19 = .ok (.invokestatic 60, 3) := by decide +kernel
theorem dX3_washes_22 : decode cX3_washes 22 = .ok (.ifCond .ne 6, 3) := by decide +kernel
theorem dX3_washes_25 : decode cX3_washes 25 = .ok (.bipush (-2), 2) := by decide +kernel
theorem dX3_washes_27 : decode cX3_washes 27 = .ok (.ireturn, 1) := by decide +kernel
theorem dX3_washes_28 : decode cX3_washes 28 = .ok (.iload_n 1, 1) := by decide +kernel
theorem dX3_washes_29 : decode cX3_washes 29 = .ok (.bipush 8, 2) := by decide +kernel
theorem dX3_washes_31 : decode cX3_washes 31 = .ok (.imul, 1) := by decide +kernel
theorem dX3_washes_32 : decode cX3_washes 32 = .ok (.iload_n 2, 1) := by decide +kernel
theorem dX3_washes_33 : decode cX3_washes 33 = .ok (.iadd, 1) := by decide +kernel
theorem dX3_washes_34 : decode cX3_washes 34 = .ok (.istore 4, 2) := by decide +kernel
theorem dX3_washes_36 : decode cX3_washes 36 = .ok (.aload_n 0, 1) := by decide +kernel
theorem dX3_washes_37 : decode cX3_washes 37 = .ok (.getfield 21, 3) := by decide +kernel
theorem dX3_washes_40 : decode cX3_washes 40 = .ok (.iload 4, 2) := by decide +kernel
theorem dX3_washes_42 : decode cX3_washes 42 = .ok (.iaload, 1) := by decide +kernel
theorem dX3_washes_43 : decode cX3_washes 43 = .ok (.istore 5, 2) := by decide +kernel
theorem dX3_washes_45 : decode cX3_washes 45 = .ok (.aload_n 0, 1) := by decide +kernel
theorem dX3_washes_46 : decode cX3_washes 46 = .ok (.getfield 21, 3) := by decide +kernel
theorem dX3_washes_49 : decode cX3_washes 49 = .ok (.iload 4, 2) := by decide +kernel
theorem dX3_washes_51 : decode cX3_washes 51 = .ok (.iload_n 3, 1) := by decide +kernel
theorem dX3_washes_52 : decode cX3_washes 52 = .ok (.iastore, 1) := by decide +kernel
theorem dX3_washes_53 : decode cX3_washes 53 = .ok (.aload_n 0, 1) := by decide +kernel
theorem dX3_washes_54 : decode cX3_washes 54 = .ok (.iconst 0, 1) := by decide +kernel
theorem dX3_washes_55 : decode cX3_washes 55 = .ok (.putfield 54, 3) := by decide +kernel
theorem dX3_washes_58 : decode cX3_washes 58 = .ok (.iload 5, 2) := by decide +kernel
theorem dX3_washes_60 : decode cX3_washes 60 = .ok (.ireturn, 1) := by decide +kernel
theorem dX3_bound_0 : decode cX3_bound 0 = .ok (.iload_n 1, 1) := by decide +kernel
theorem dX3_bound_1 : decode cX3_bound 1 = .ok (.iconst 0, 1) := by decide +kernel
theorem dX3_bound_2 : decode cX3_bound 2 = .ok (.sipush 9999, 3) := by decide +kernel
theorem dX3_bound_5 : decode cX3_bound 5 = .ok (.invokestatic 60, 3) := by decide +kernel
theorem dX3_bound_8 : decode cX3_bound 8 = .ok (.ifCond .ne 6, 3) := by decide +kernel
theorem dX3_bound_11 : decode cX3_bound 11 = .ok (.bipush (-2), 2) := by decide +kernel
theorem dX3_bound_13 : decode cX3_bound 13 = .ok (.ireturn, 1) := by decide +kernel
theorem dX3_bound_14 : decode cX3_bound 14 = .ok (.aload_n 0, 1) := by decide +kernel
theorem dX3_bound_15 : decode cX3_bound 15 = .ok (.getfield 48, 3) := by decide +kernel
theorem dX3_bound_18 : decode cX3_bound 18 = .ok (.istore_n 2, 1) := by decide +kernel
theorem dX3_bound_19 : decode cX3_bound 19 = .ok (.aload_n 0, 1) := by decide +kernel
theorem dX3_bound_20 : decode cX3_bound 20 = .ok (.iload_n 1, 1) := by decide +kernel
theorem dX3_bound_21 : decode cX3_bound 21 = .ok (.putfield 48, 3) := by decide +kernel
theorem dX3_bound_24 : decode cX3_bound 24 = .ok (.aload_n 0, 1) := by decide +kernel
theorem dX3_bound_25 : decode cX3_bound 25 = .ok (.iconst 0, 1) := by decide +kernel
theorem dX3_bound_26 : decode cX3_bound 26 = .ok (.putfield 54, 3) := by decide +kernel
theorem dX3_bound_29 : decode cX3_bound 29 = .ok (.iload_n 2, 1) := by decide +kernel
theorem dX3_bound_30 : decode cX3_bound 30 = .ok (.ireturn, 1) := by decide +kernel
theorem dX3_ofTank_0 : decode cX3_ofTank 0 = .ok (.aload_n 0, 1) := by decide +kernel
theorem dX3_ofTank_1 : decode cX3_ofTank 1 = .ok (.iload_n 1, 1) := by decide +kernel
theorem dX3_ofTank_2 : decode cX3_ofTank 2 = .ok (.invokevirtual 83, 3) := by decide +kernel
theorem dX3_ofTank_5 : decode cX3_ofTank 5 = .ok (.ifCond .ne 5, 3) := by decide +kernel
theorem dX3_ofTank_8 : decode cX3_ofTank 8 = .ok (.iconst (-1), 1) := by decide +kernel
theorem dX3_ofTank_9 : decode cX3_ofTank 9 = .ok (.ireturn, 1) := by decide +kernel
theorem dX3_ofTank_10 : decode cX3_ofTank 10 = .ok (.aload_n 0, 1) := by decide +kernel
theorem dX3_ofTank_11 : decode cX3_ofTank 11 = .ok (.getfield 11, 3) := by decide +kernel
theorem dX3_ofTank_14 : decode cX3_ofTank 14 = .ok (.iload_n 1, 1) := by decide +kernel
theorem dX3_ofTank_15 : decode cX3_ofTank 15 = .ok (.aaload, 1) := by decide +kernel
theorem dX3_ofTank_16 : decode cX3_ofTank 16 = .ok (.astore_n 3, 1) := by decide +kernel
theorem dX3_ofTank_17 : decode cX3_ofTank 17 = .ok (.iload_n 2, 1) := by decide +kernel
theorem dX3_ofTank_18 : decode cX3_ofTank 18 = .ok (.tableswitch 104 0 8 #[50, 55, 60, 68, 73, 80, 87, 94, 99], 50) := by decide +kernel
theorem dX3_ofTank_68 : decode cX3_ofTank 68 = .ok (.aload_n 3, 1) := by decide +kernel
theorem dX3_ofTank_69 : decode cX3_ofTank 69 = .ok (.getfield 64, 3) := by decide +kernel
theorem dX3_ofTank_72 : decode cX3_ofTank 72 = .ok (.ireturn, 1) := by decide +kernel
theorem dX3_ofTank_73 : decode cX3_ofTank 73 = .ok (.aload_n 3, 1) := by decide +kernel
theorem dX3_ofTank_74 : decode cX3_ofTank 74 = .ok (.getfield 67, 3) := by decide +kernel
theorem dX3_ofTank_77 : decode cX3_ofTank 77 = .ok (.ireturn, 1) := by decide +kernel
theorem dX3_ofTank_78 : decode cX3_ofTank 78 = .ok (.aload_n 3, 1) := by decide +kernel
theorem dX3_ofTank_79 : decode cX3_ofTank 79 = .ok (.getfield 70, 3) := by decide +kernel
theorem dX3_ofTank_82 : decode cX3_ofTank 82 = .ok (.bipush 10, 2) := by decide +kernel
theorem dX3_ofTank_84 : decode cX3_ofTank 84 = .ok (.iadd, 1) := by decide +kernel
theorem dX3_ofTank_85 : decode cX3_ofTank 85 = .ok (.ireturn, 1) := by decide +kernel
theorem dX3_ofTank_86 : decode cX3_ofTank 86 = .ok (.aload_n 3, 1) := by decide +kernel
theorem dX3_ofTank_87 : decode cX3_ofTank 87 = .ok (.getfield 77, 3) := by decide +kernel
theorem dX3_ofTank_90 : decode cX3_ofTank 90 = .ok (.ireturn, 1) := by decide +kernel
theorem dX3_ofTank_91 : decode cX3_ofTank 91 = .ok (.aload_n 3, 1) := by decide +kernel
theorem dX3_ofTank_92 : decode cX3_ofTank 92 = .ok (.getfield 90, 3) := by decide +kernel
theorem dX3_ofTank_95 : decode cX3_ofTank 95 = .ok (.iconst 0, 1) := by decide +kernel
theorem dX3_ofTank_96 : decode cX3_ofTank 96 = .ok (.iaload, 1) := by decide +kernel
theorem dX3_ofTank_97 : decode cX3_ofTank 97 = .ok (.ireturn, 1) := by decide +kernel
theorem dX3_ofTank_98 : decode cX3_ofTank 98 = .ok (.aload_n 3, 1) := by decide +kernel
theorem dX3_ofTank_99 : decode cX3_ofTank 99 = .ok (.getfield 90, 3) := by decide +kernel
theorem dX3_ofTank_102 : decode cX3_ofTank 102 = .ok (.iconst 1, 1) := by decide +kernel
theorem dX3_ofTank_103 : decode cX3_ofTank 103 = .ok (.iaload, 1) := by decide +kernel
theorem dX3_ofTank_104 : decode cX3_ofTank 104 = .ok (.ireturn, 1) := by decide +kernel
theorem dX3_ofTank_105 : decode cX3_ofTank 105 = .ok (.aload_n 3, 1) := by decide +kernel
theorem dX3_ofTank_106 : decode cX3_ofTank 106 = .ok (.getfield 90, 3) := by decide +kernel
theorem dX3_ofTank_109 : decode cX3_ofTank 109 = .ok (.iconst 2, 1) := by decide +kernel
theorem dX3_ofTank_110 : decode cX3_ofTank 110 = .ok (.iaload, 1) := by decide +kernel
theorem dX3_ofTank_111 : decode cX3_ofTank 111 = .ok (.ireturn, 1) := by decide +kernel
theorem dX3_ofTank_112 : decode cX3_ofTank 112 = .ok (.aload_n 3, 1) := by decide +kernel
theorem dX3_ofTank_113 : decode cX3_ofTank 113 = .ok (.getfield 124, 3) := by decide +kernel
theorem dX3_ofTank_116 : decode cX3_ofTank 116 = .ok (.ireturn, 1) := by decide +kernel
theorem dX3_ofTank_117 : decode cX3_ofTank 117 = .ok (.aload_n 3, 1) := by decide +kernel
theorem dX3_ofTank_118 : decode cX3_ofTank 118 = .ok (.getfield 127, 3) := by decide +kernel
theorem dX3_ofTank_121 : decode cX3_ofTank 121 = .ok (.ireturn, 1) := by decide +kernel
theorem dX3_ofTank_122 : decode cX3_ofTank 122 = .ok (.bipush (-2), 2) := by decide +kernel
theorem dX3_ofTank_124 : decode cX3_ofTank 124 = .ok (.ireturn, 1) := by decide +kernel
theorem dX3_ofCargo_0 : decode cX3_ofCargo 0 = .ok (.aload_n 0, 1) := by decide +kernel
theorem dX3_ofCargo_1 : decode cX3_ofCargo 1 = .ok (.iload_n 1, 1) := by decide +kernel
theorem dX3_ofCargo_2 : decode cX3_ofCargo 2 = .ok (.invokevirtual 121, 3) := by decide +kernel
theorem dX3_ofCargo_5 : decode cX3_ofCargo 5 = .ok (.ifCond .ne 5, 3) := by decide +kernel
theorem dX3_ofCargo_8 : decode cX3_ofCargo 8 = .ok (.iconst (-1), 1) := by decide +kernel
theorem dX3_ofCargo_9 : decode cX3_ofCargo 9 = .ok (.ireturn, 1) := by decide +kernel
theorem dX3_ofCargo_10 : decode cX3_ofCargo 10 = .ok (.aload_n 0, 1) := by decide +kernel
theorem dX3_ofCargo_11 : decode cX3_ofCargo 11 = .ok (.getfield 17, 3) := by decide +kernel
theorem dX3_ofCargo_14 : decode cX3_ofCargo 14 = .ok (.iload_n 1, 1) := by decide +kernel
theorem dX3_ofCargo_15 : decode cX3_ofCargo 15 = .ok (.aaload, 1) := by decide +kernel
theorem dX3_ofCargo_16 : decode cX3_ofCargo 16 = .ok (.astore_n 3, 1) := by decide +kernel
theorem dX3_ofCargo_17 : decode cX3_ofCargo 17 = .ok (.iload_n 2, 1) := by decide +kernel
theorem dX3_ofCargo_18 : decode cX3_ofCargo 18 = .ok (.tableswitch 88 0 7 #[46, 51, 56, 61, 66, 71, 76, 82], 46) := by decide +kernel
theorem dX3_ofCargo_64 : decode cX3_ofCargo 64 = .ok (.aload_n 3, 1) := by decide +kernel
theorem dX3_ofCargo_65 : decode cX3_ofCargo 65 = .ok (.getfield 99, 3) := by decide +kernel
theorem dX3_ofCargo_68 : decode cX3_ofCargo 68 = .ok (.ireturn, 1) := by decide +kernel
theorem dX3_ofCargo_69 : decode cX3_ofCargo 69 = .ok (.aload_n 3, 1) := by decide +kernel
theorem dX3_ofCargo_70 : decode cX3_ofCargo 70 = .ok (.getfield 102, 3) := by decide +kernel
theorem dX3_ofCargo_73 : decode cX3_ofCargo 73 = .ok (.ireturn, 1) := by decide +kernel
theorem dX3_ofCargo_74 : decode cX3_ofCargo 74 = .ok (.aload_n 3, 1) := by decide +kernel
theorem dX3_ofCargo_75 : decode cX3_ofCargo 75 = .ok (.getfield 105, 3) := by decide +kernel
theorem dX3_ofCargo_78 : decode cX3_ofCargo 78 = .ok (.ireturn, 1) := by decide +kernel
theorem dX3_ofCargo_79 : decode cX3_ofCargo 79 = .ok (.aload_n 3, 1) := by decide +kernel
theorem dX3_ofCargo_80 : decode cX3_ofCargo 80 = .ok (.getfield 108, 3) := by decide +kernel
theorem dX3_ofCargo_83 : decode cX3_ofCargo 83 = .ok (.ireturn, 1) := by decide +kernel
theorem dX3_ofCargo_84 : decode cX3_ofCargo 84 = .ok (.aload_n 3, 1) := by decide +kernel
theorem dX3_ofCargo_85 : decode cX3_ofCargo 85 = .ok (.getfield 111, 3) := by decide +kernel
theorem dX3_ofCargo_88 : decode cX3_ofCargo 88 = .ok (.ireturn, 1) := by decide +kernel
theorem dX3_ofCargo_89 : decode cX3_ofCargo 89 = .ok (.aload_n 3, 1) := by decide +kernel
theorem dX3_ofCargo_90 : decode cX3_ofCargo 90 = .ok (.getfield 114, 3) := by decide +kernel
theorem dX3_ofCargo_93 : decode cX3_ofCargo 93 = .ok (.ireturn, 1) := by decide +kernel
theorem dX3_ofCargo_94 : decode cX3_ofCargo 94 = .ok (.aload_n 0, 1) := by decide +kernel
theorem dX3_ofCargo_95 : decode cX3_ofCargo 95 = .ok (.aload_n 3, 1) := by decide +kernel
theorem dX3_ofCargo_96 : decode cX3_ofCargo 96 = .ok (.invokevirtual 130, 3) := by decide +kernel
theorem dX3_ofCargo_99 : decode cX3_ofCargo 99 = .ok (.ireturn, 1) := by decide +kernel
theorem dX3_ofCargo_100 : decode cX3_ofCargo 100 = .ok (.aload_n 0, 1) := by decide +kernel
theorem dX3_ofCargo_101 : decode cX3_ofCargo 101 = .ok (.aload_n 3, 1) := by decide +kernel
theorem dX3_ofCargo_102 : decode cX3_ofCargo 102 = .ok (.invokevirtual 134, 3) := by decide +kernel
theorem dX3_ofCargo_105 : decode cX3_ofCargo 105 = .ok (.ireturn, 1) := by decide +kernel
theorem dX3_ofCargo_106 : decode cX3_ofCargo 106 = .ok (.bipush (-2), 2) := by decide +kernel
theorem dX3_ofCargo_108 : decode cX3_ofCargo 108 = .ok (.ireturn, 1) := by decide +kernel
theorem dX3_needs_0 : decode cX3_needs 0 = .ok (.aload_n 0, 1) := by decide +kernel
theorem dX3_needs_1 : decode cX3_needs 1 = .ok (.iload_n 1, 1) := by decide +kernel
theorem dX3_needs_2 : decode cX3_needs 2 = .ok (.invokevirtual 83, 3) := by decide +kernel
theorem dX3_needs_5 : decode cX3_needs 5 = .ok (.ifCond .eq 11, 3) := by decide +kernel
theorem dX3_needs_8 : decode cX3_needs 8 = .ok (.aload_n 0, 1) := by decide +kernel
theorem dX3_needs_9 : decode cX3_needs 9 = .ok (.iload_n 2, 1) := by decide +kernel
theorem dX3_needs_10 : decode cX3_needs 10 = .ok (.invokevirtual 121, 3) := by decide +kernel
theorem dX3_needs_13 : decode cX3_needs 13 = .ok (.ifCond .ne 5, 3) := by decide +kernel
theorem dX3_needs_16 : decode cX3_needs 16 = .ok (.iconst (-1), 1) := by decide +kernel
theorem dX3_needs_17 : decode cX3_needs 17 = .ok (.ireturn, 1) := by decide +kernel
theorem dX3_needs_18 : decode cX3_needs 18 = .ok (.aload_n 0, 1) := by decide +kernel
theorem dX3_needs_19 : decode cX3_needs 19 = .ok (.aload_n 0, 1) := by decide +kernel
theorem dX3_needs_20 : decode cX3_needs 20 = .ok (.getfield 11, 3) := by decide +kernel
theorem dX3_needs_23 : decode cX3_needs 23 = .ok (.iload_n 1, 1) := by decide +kernel
theorem dX3_needs_24 : decode cX3_needs 24 = .ok (.aaload, 1) := by decide +kernel
theorem dX3_needs_25 : decode cX3_needs 25 = .ok (.aload_n 0, 1) := by decide +kernel
theorem dX3_needs_26 : decode cX3_needs 26 = .ok (.getfield 17, 3) := by decide +kernel
theorem dX3_needs_29 : decode cX3_needs 29 = .ok (.iload_n 2, 1) := by decide +kernel
theorem dX3_needs_30 : decode cX3_needs 30 = .ok (.aaload, 1) := by decide +kernel
theorem dX3_needs_31 : decode cX3_needs 31 = .ok (.invokevirtual 137, 3) := by decide +kernel
theorem dX3_needs_34 : decode cX3_needs 34 = .ok (.ireturn, 1) := by decide +kernel
theorem dX3_why_0 : decode cX3_why 0 = .ok (.aload_n 0, 1) := by decide +kernel
theorem dX3_why_1 : decode cX3_why 1 = .ok (.iload_n 1, 1) := by decide +kernel
theorem dX3_why_2 : decode cX3_why 2 = .ok (.invokevirtual 83, 3) := by decide +kernel
theorem dX3_why_5 : decode cX3_why 5 = .ok (.ifCond .eq 11, 3) := by decide +kernel
theorem dX3_why_8 : decode cX3_why 8 = .ok (.aload_n 0, 1) := by decide +kernel
theorem dX3_why_9 : decode cX3_why 9 = .ok (.iload_n 2, 1) := by decide +kernel
theorem dX3_why_10 : decode cX3_why 10 = .ok (.invokevirtual 121, 3) := by decide +kernel
theorem dX3_why_13 : decode cX3_why 13 = .ok (.ifCond .ne 5, 3) := by decide +kernel
theorem dX3_why_16 : decode cX3_why 16 = .ok (.iconst (-1), 1) := by decide +kernel
theorem dX3_why_17 : decode cX3_why 17 = .ok (.ireturn, 1) := by decide +kernel
theorem dX3_why_18 : decode cX3_why 18 = .ok (.aload_n 0, 1) := by decide +kernel
theorem dX3_why_19 : decode cX3_why 19 = .ok (.aload_n 0, 1) := by decide +kernel
theorem dX3_why_20 : decode cX3_why 20 = .ok (.getfield 11, 3) := by decide +kernel
theorem dX3_why_23 : decode cX3_why 23 = .ok (.iload_n 1, 1) := by decide +kernel
theorem dX3_why_24 : decode cX3_why 24 = .ok (.aaload, 1) := by decide +kernel
theorem dX3_why_25 : decode cX3_why 25 = .ok (.aload_n 0, 1) := by decide +kernel
theorem dX3_why_26 : decode cX3_why 26 = .ok (.getfield 17, 3) := by decide +kernel
theorem dX3_why_29 : decode cX3_why 29 = .ok (.iload_n 2, 1) := by decide +kernel
theorem dX3_why_30 : decode cX3_why 30 = .ok (.aaload, 1) := by decide +kernel
theorem dX3_why_31 : decode cX3_why 31 = .ok (.invokevirtual 141, 3) := by decide +kernel
theorem dX3_why_34 : decode cX3_why 34 = .ok (.ireturn, 1) := by decide +kernel
theorem dX3_plan_0 : decode cX3_plan 0 = .ok (.aload_n 0, 1) := by decide +kernel
theorem dX3_plan_1 : decode cX3_plan 1 = .ok (.iload_n 1, 1) := by decide +kernel
theorem dX3_plan_2 : decode cX3_plan 2 = .ok (.invokevirtual 83, 3) := by decide +kernel
theorem dX3_plan_5 : decode cX3_plan 5 = .ok (.ifCond .eq 17, 3) := by decide +kernel
theorem dX3_plan_8 : decode cX3_plan 8 = .ok (.iload_n 2, 1) := by decide +kernel
theorem dX3_plan_9 : decode cX3_plan 9 = .ok (.bipush (-9), 2) := by decide +kernel
theorem dX3_plan_11 : decode cX3_plan 11 = .ok (.if_icmp .eq 13, 3) := by decide +kernel
theorem dX3_plan_14 : decode cX3_plan 14 = .ok (.aload_n 0, 1) := by decide +kernel
theorem dX3_plan_15 : decode cX3_plan 15 = .ok (.iload_n 2, 1) := by decide +kernel
theorem dX3_plan_16 : decode cX3_plan 16 = .ok (.invokevirtual 121, 3) := by decide +kernel
theorem dX3_plan_19 : decode cX3_plan 19 = .ok (.ifCond .ne 5, 3) := by decide +kernel
theorem dX3_plan_22 : decode cX3_plan 22 = .ok (.iconst (-1), 1) := by decide +kernel
theorem dX3_plan_23 : decode cX3_plan 23 = .ok (.ireturn, 1) := by decide +kernel
theorem dX3_plan_24 : decode cX3_plan 24 = .ok (.aload_n 0, 1) := by decide +kernel
theorem dX3_plan_25 : decode cX3_plan 25 = .ok (.getfield 32, 3) := by decide +kernel
theorem dX3_plan_28 : decode cX3_plan 28 = .ok (.iload_n 1, 1) := by decide +kernel
theorem dX3_plan_29 : decode cX3_plan 29 = .ok (.iaload, 1) := by decide +kernel
theorem dX3_plan_30 : decode cX3_plan 30 = .ok (.istore_n 3, 1) := by decide +kernel
theorem dX3_plan_31 : decode cX3_plan 31 = .ok (.aload_n 0, 1) := by decide +kernel
theorem dX3_plan_32 : decode cX3_plan 32 = .ok (.getfield 32, 3) := by decide +kernel
theorem dX3_plan_35 : decode cX3_plan 35 = .ok (.iload_n 1, 1) := by decide +kernel
theorem dX3_plan_36 : decode cX3_plan 36 = .ok (.iload_n 2, 1) := by decide +kernel
theorem dX3_plan_37 : decode cX3_plan 37 = .ok (.iastore, 1) := by decide +kernel
theorem dX3_plan_38 : decode cX3_plan 38 = .ok (.iload_n 3, 1) := by decide +kernel
theorem dX3_plan_39 : decode cX3_plan 39 = .ok (.ireturn, 1) := by decide +kernel
theorem dX3_broken_0 : decode cX3_broken 0 = .ok (.aload_n 0, 1) := by decide +kernel
theorem dX3_broken_1 : decode cX3_broken 1 = .ok (.iload_n 1, 1) := by decide +kernel
theorem dX3_broken_2 : decode cX3_broken 2 = .ok (.invokevirtual 144, 3) := by decide +kernel
theorem dX3_broken_5 : decode cX3_broken 5 = .ok (.ifCond .ne 6, 3) := by decide +kernel
theorem dX3_broken_8 : decode cX3_broken 8 = .ok (.bipush (-2), 2) := by decide +kernel
theorem dX3_broken_10 : decode cX3_broken 10 = .ok (.ireturn, 1) := by decide +kernel
theorem dX3_broken_11 : decode cX3_broken 11 = .ok (.aload_n 0, 1) := by decide +kernel
theorem dX3_broken_12 : decode cX3_broken 12 = .ok (.iload_n 1, 1) := by decide +kernel
theorem dX3_broken_13 : decode cX3_broken 13 = .ok (.invokevirtual 147, 3) := by decide +kernel
theorem dX3_broken_16 : decode cX3_broken 16 = .ok (.ifCond .eq 5, 3) := by decide +kernel
theorem dX3_broken_19 : decode cX3_broken 19 = .ok (.iconst 1, 1) := by decide +kernel
theorem dX3_broken_20 : decode cX3_broken 20 = .ok (.ireturn, 1) := by decide +kernel
theorem dX3_broken_21 : decode cX3_broken 21 = .ok (.aload_n 0, 1) := by decide +kernel
theorem dX3_broken_22 : decode cX3_broken 22 = .ok (.invokevirtual 150, 3) := by decide +kernel
theorem dX3_broken_25 : decode cX3_broken 25 = .ok (.ifCond .eq 5, 3) := by decide +kernel
theorem dX3_broken_28 : decode cX3_broken 28 = .ok (.iconst 2, 1) := by decide +kernel
theorem dX3_broken_29 : decode cX3_broken 29 = .ok (.ireturn, 1) := by decide +kernel
theorem dX3_broken_30 : decode cX3_broken 30 = .ok (.aload_n 0, 1) := by decide +kernel
theorem dX3_broken_31 : decode cX3_broken 31 = .ok (.invokevirtual 154, 3) := by decide +kernel
theorem dX3_broken_34 : decode cX3_broken 34 = .ok (.ifCond .eq 5, 3) := by decide +kernel
theorem dX3_broken_37 : decode cX3_broken 37 = .ok (.iconst 3, 1) := by decide +kernel
theorem dX3_broken_38 : decode cX3_broken 38 = .ok (.ireturn, 1) := by decide +kernel
theorem dX3_broken_39 : decode cX3_broken 39 = .ok (.aload_n 0, 1) := by decide +kernel
theorem dX3_broken_40 : decode cX3_broken 40 = .ok (.invokevirtual 157, 3) := by decide +kernel
theorem dX3_broken_43 : decode cX3_broken 43 = .ok (.aload_n 0, 1) := by decide +kernel
theorem dX3_broken_44 : decode cX3_broken 44 = .ok (.iload_n 1, 1) := by decide +kernel
theorem dX3_broken_45 : decode cX3_broken 45 = .ok (.invokevirtual 160, 3) := by decide +kernel
theorem dX3_broken_48 : decode cX3_broken 48 = .ok (.ifCond .eq 5, 3) := by decide +kernel
theorem dX3_broken_51 : decode cX3_broken 51 = .ok (.iconst 4, 1) := by decide +kernel
theorem dX3_broken_52 : decode cX3_broken 52 = .ok (.ireturn, 1) := by decide +kernel
theorem dX3_broken_53 : decode cX3_broken 53 = .ok (.aload_n 0, 1) := by decide +kernel
theorem dX3_broken_54 : decode cX3_broken 54 = .ok (.invokevirtual 163, 3) := by decide +kernel
theorem dX3_broken_57 : decode cX3_broken 57 = .ok (.ifCond .eq 5, 3) := by decide +kernel
theorem dX3_broken_60 : decode cX3_broken 60 = .ok (.iconst 5, 1) := by decide +kernel
theorem dX3_broken_61 : decode cX3_broken 61 = .ok (.ireturn, 1) := by decide +kernel
theorem dX3_broken_62 : decode cX3_broken 62 = .ok (.aload_n 0, 1) := by decide +kernel
theorem dX3_broken_63 : decode cX3_broken 63 = .ok (.invokevirtual 166, 3) := by decide +kernel
theorem dX3_broken_66 : decode cX3_broken 66 = .ok (.invokestatic 170, 3) := by decide +kernel
theorem dX3_broken_69 : decode cX3_broken 69 = .ok (.aload_n 0, 1) := by decide +kernel
theorem dX3_broken_70 : decode cX3_broken 70 = .ok (.getfield 48, 3) := by decide +kernel
theorem dX3_broken_73 : decode cX3_broken 73 = .ok (.if_icmp .le 8, 3) := by decide +kernel
theorem dX3_broken_76 : decode cX3_broken 76 = .ok (.bipush 6, 2) := by decide +kernel
theorem dX3_broken_78 : decode cX3_broken 78 = .ok (.goto 4, 3) := by decide +kernel
theorem dX3_broken_81 : decode cX3_broken 81 = .ok (.iconst 0, 1) := by decide +kernel
theorem dX3_broken_82 : decode cX3_broken 82 = .ok (.ireturn, 1) := by decide +kernel
theorem dX3_ofPlan_0 : decode cX3_ofPlan 0 = .ok (.iload_n 1, 1) := by decide +kernel
theorem dX3_ofPlan_1 : decode cX3_ofPlan 1 = .ok (.tableswitch 49 0 2 #[27, 32, 37], 27) := by decide +kernel
theorem dX3_ofPlan_28 : decode cX3_ofPlan 28 = .ok (.aload_n 0, 1) := by decide +kernel
theorem dX3_ofPlan_29 : decode cX3_ofPlan 29 = .ok (.invokevirtual 175, 3) := by decide +kernel
theorem dX3_ofPlan_32 : decode cX3_ofPlan 32 = .ok (.ireturn, 1) := by decide +kernel
theorem dX3_ofPlan_33 : decode cX3_ofPlan 33 = .ok (.aload_n 0, 1) := by decide +kernel
theorem dX3_ofPlan_34 : decode cX3_ofPlan 34 = .ok (.invokevirtual 178, 3) := by decide +kernel
theorem dX3_ofPlan_37 : decode cX3_ofPlan 37 = .ok (.ireturn, 1) := by decide +kernel
theorem dX3_ofPlan_38 : decode cX3_ofPlan 38 = .ok (.aload_n 0, 1) := by decide +kernel
theorem dX3_ofPlan_39 : decode cX3_ofPlan 39 = .ok (.invokevirtual 157, 3) := by decide +kernel
theorem dX3_ofPlan_42 : decode cX3_ofPlan 42 = .ok (.aload_n 0, 1) := by decide +kernel
theorem dX3_ofPlan_43 : decode cX3_ofPlan 43 = .ok (.invokevirtual 166, 3) := by decide +kernel
theorem dX3_ofPlan_46 : decode cX3_ofPlan 46 = .ok (.ldc 181, 2) := by decide +kernel
theorem dX3_ofPlan_48 : decode cX3_ofPlan 48 = .ok (.iadd, 1) := by decide +kernel
theorem dX3_ofPlan_49 : decode cX3_ofPlan 49 = .ok (.ireturn, 1) := by decide +kernel
theorem dX3_ofPlan_50 : decode cX3_ofPlan 50 = .ok (.bipush (-2), 2) := by decide +kernel
theorem dX3_ofPlan_52 : decode cX3_ofPlan 52 = .ok (.ireturn, 1) := by decide +kernel
theorem dX3_best_0 : decode cX3_best 0 = .ok (.aload_n 0, 1) := by decide +kernel
theorem dX3_best_1 : decode cX3_best 1 = .ok (.iload_n 2, 1) := by decide +kernel
theorem dX3_best_2 : decode cX3_best 2 = .ok (.bipush 10, 2) := by decide +kernel
theorem dX3_best_4 : decode cX3_best 4 = .ok (.isub, 1) := by decide +kernel
theorem dX3_best_5 : decode cX3_best 5 = .ok (.invokevirtual 83, 3) := by decide +kernel
theorem dX3_best_8 : decode cX3_best 8 = .ok (.ifCond .ne 14, 3) := by decide +kernel
theorem dX3_best_11 : decode cX3_best 11 = .ok (.aload_n 0, 1) := by decide +kernel
theorem dX3_best_12 : decode cX3_best 12 = .ok (.iload_n 2, 1) := by decide +kernel
theorem dX3_best_13 : decode cX3_best 13 = .ok (.bipush 20, 2) := by decide +kernel
theorem dX3_best_15 : decode cX3_best 15 = .ok (.isub, 1) := by decide +kernel
theorem dX3_best_16 : decode cX3_best 16 = .ok (.invokevirtual 83, 3) := by decide +kernel
theorem dX3_best_19 : decode cX3_best 19 = .ok (.ifCond .eq 7, 3) := by decide +kernel
theorem dX3_best_22 : decode cX3_best 22 = .ok (.iconst 1, 1) := by decide +kernel
theorem dX3_best_23 : decode cX3_best 23 = .ok (.goto 4, 3) := by decide +kernel
theorem dX3_best_26 : decode cX3_best 26 = .ok (.iconst 0, 1) := by decide +kernel
theorem dX3_best_27 : decode cX3_best 27 = .ok (.istore_n 3, 1) := by decide +kernel
theorem dX3_best_28 : decode cX3_best 28 = .ok (.aload_n 0, 1) := by decide +kernel
theorem dX3_best_29 : decode cX3_best 29 = .ok (.iload_n 1, 1) := by decide +kernel
theorem dX3_best_30 : decode cX3_best 30 = .ok (.invokevirtual 144, 3) := by decide +kernel
theorem dX3_best_33 : decode cX3_best 33 = .ok (.ifCond .eq 16, 3) := by decide +kernel
theorem dX3_best_36 : decode cX3_best 36 = .ok (.iload_n 2, 1) := by decide +kernel
theorem dX3_best_37 : decode cX3_best 37 = .ok (.iconst 0, 1) := by decide +kernel
theorem dX3_best_38 : decode cX3_best 38 = .ok (.iconst 3, 1) := by decide +kernel
theorem dX3_best_39 : decode cX3_best 39 = .ok (.invokestatic 60, 3) := by decide +kernel
theorem dX3_best_42 : decode cX3_best 42 = .ok (.ifCond .ne 10, 3) := by decide +kernel
theorem dX3_best_45 : decode cX3_best 45 = .ok (.iload_n 3, 1) := by decide +kernel
theorem dX3_best_46 : decode cX3_best 46 = .ok (.ifCond .ne 6, 3) := by decide +kernel
theorem dX3_best_49 : decode cX3_best 49 = .ok (.bipush (-2), 2) := by decide +kernel
theorem dX3_best_51 : decode cX3_best 51 = .ok (.ireturn, 1) := by decide +kernel
theorem dX3_best_52 : decode cX3_best 52 = .ok (.aload_n 0, 1) := by decide +kernel
theorem dX3_best_53 : decode cX3_best 53 = .ok (.invokevirtual 182, 3) := by decide +kernel
theorem dX3_best_56 : decode cX3_best 56 = .ok (.iload_n 2, 1) := by decide +kernel
theorem dX3_best_57 : decode cX3_best 57 = .ok (.iconst 3, 1) := by decide +kernel
theorem dX3_best_58 : decode cX3_best 58 = .ok (.if_icmp .ne 13, 3) := by decide +kernel
theorem dX3_best_61 : decode cX3_best 61 = .ok (.aload_n 0, 1) := by decide +kernel
theorem dX3_best_62 : decode cX3_best 62 = .ok (.getfield 28, 3) := by decide +kernel
theorem dX3_best_65 : decode cX3_best 65 = .ok (.getfield 185, 3) := by decide +kernel
theorem dX3_best_68 : decode cX3_best 68 = .ok (.iload_n 1, 1) := by decide +kernel
theorem dX3_best_69 : decode cX3_best 69 = .ok (.iaload, 1) := by decide +kernel
theorem dX3_best_70 : decode cX3_best 70 = .ok (.ireturn, 1) := by decide +kernel
theorem dX3_best_71 : decode cX3_best 71 = .ok (.aload_n 0, 1) := by decide +kernel
theorem dX3_best_72 : decode cX3_best 72 = .ok (.getfield 28, 3) := by decide +kernel
theorem dX3_best_75 : decode cX3_best 75 = .ok (.getfield 185, 3) := by decide +kernel
theorem dX3_best_78 : decode cX3_best 78 = .ok (.iload_n 1, 1) := by decide +kernel
theorem dX3_best_79 : decode cX3_best 79 = .ok (.iaload, 1) := by decide +kernel
theorem dX3_best_80 : decode cX3_best 80 = .ok (.ifCond .ne 6, 3) := by decide +kernel
theorem dX3_best_83 : decode cX3_best 83 = .ok (.bipush (-9), 2) := by decide +kernel
theorem dX3_best_85 : decode cX3_best 85 = .ok (.ireturn, 1) := by decide +kernel
theorem dX3_best_86 : decode cX3_best 86 = .ok (.aload_n 0, 1) := by decide +kernel
theorem dX3_best_87 : decode cX3_best 87 = .ok (.iload_n 2, 1) := by decide +kernel
theorem dX3_best_88 : decode cX3_best 88 = .ok (.bipush 20, 2) := by decide +kernel
theorem dX3_best_90 : decode cX3_best 90 = .ok (.isub, 1) := by decide +kernel
theorem dX3_best_91 : decode cX3_best 91 = .ok (.invokevirtual 83, 3) := by decide +kernel
theorem dX3_best_94 : decode cX3_best 94 = .ok (.ifCond .eq 21, 3) := by decide +kernel
theorem dX3_best_97 : decode cX3_best 97 = .ok (.aload_n 0, 1) := by decide +kernel
theorem dX3_best_98 : decode cX3_best 98 = .ok (.getfield 28, 3) := by decide +kernel
theorem dX3_best_101 : decode cX3_best 101 = .ok (.getfield 188, 3) := by decide +kernel
theorem dX3_best_104 : decode cX3_best 104 = .ok (.iload_n 1, 1) := by decide +kernel
theorem dX3_best_105 : decode cX3_best 105 = .ok (.bipush 6, 2) := by decide +kernel
theorem dX3_best_107 : decode cX3_best 107 = .ok (.imul, 1) := by decide +kernel
theorem dX3_best_108 : decode cX3_best 108 = .ok (.iload_n 2, 1) := by decide +kernel
theorem dX3_best_109 : decode cX3_best 109 = .ok (.iadd, 1) := by decide +kernel
theorem dX3_best_110 : decode cX3_best 110 = .ok (.bipush 20, 2) := by decide +kernel
theorem dX3_best_112 : decode cX3_best 112 = .ok (.isub, 1) := by decide +kernel
theorem dX3_best_113 : decode cX3_best 113 = .ok (.iaload, 1) := by decide +kernel
theorem dX3_best_114 : decode cX3_best 114 = .ok (.ireturn, 1) := by decide +kernel
theorem dX3_best_115 : decode cX3_best 115 = .ok (.aload_n 0, 1) := by decide +kernel
theorem dX3_best_116 : decode cX3_best 116 = .ok (.iload_n 2, 1) := by decide +kernel
theorem dX3_best_117 : decode cX3_best 117 = .ok (.bipush 10, 2) := by decide +kernel
theorem dX3_best_119 : decode cX3_best 119 = .ok (.isub, 1) := by decide +kernel
theorem dX3_best_120 : decode cX3_best 120 = .ok (.invokevirtual 83, 3) := by decide +kernel
theorem dX3_best_123 : decode cX3_best 123 = .ok (.ifCond .eq 21, 3) := by decide +kernel
theorem dX3_best_126 : decode cX3_best 126 = .ok (.aload_n 0, 1) := by decide +kernel
theorem dX3_best_127 : decode cX3_best 127 = .ok (.getfield 28, 3) := by decide +kernel
theorem dX3_best_130 : decode cX3_best 130 = .ok (.getfield 191, 3) := by decide +kernel
theorem dX3_best_133 : decode cX3_best 133 = .ok (.iload_n 1, 1) := by decide +kernel
theorem dX3_best_134 : decode cX3_best 134 = .ok (.bipush 6, 2) := by decide +kernel
theorem dX3_best_136 : decode cX3_best 136 = .ok (.imul, 1) := by decide +kernel
theorem dX3_best_137 : decode cX3_best 137 = .ok (.iload_n 2, 1) := by decide +kernel
theorem dX3_best_138 : decode cX3_best 138 = .ok (.iadd, 1) := by decide +kernel
theorem dX3_best_139 : decode cX3_best 139 = .ok (.bipush 10, 2) := by decide +kernel
theorem dX3_best_141 : decode cX3_best 141 = .ok (.isub, 1) := by decide +kernel
theorem dX3_best_142 : decode cX3_best 142 = .ok (.iaload, 1) := by decide +kernel
theorem dX3_best_143 : decode cX3_best 143 = .ok (.ireturn, 1) := by decide +kernel
theorem dX3_best_144 : decode cX3_best 144 = .ok (.iload_n 2, 1) := by decide +kernel
theorem dX3_best_145 : decode cX3_best 145 = .ok (.lookupswitch 47 #[(0, 27), (1, 37)], 27) := by decide +kernel
theorem dX3_best_172 : decode cX3_best 172 = .ok (.aload_n 0, 1) := by decide +kernel
theorem dX3_best_173 : decode cX3_best 173 = .ok (.getfield 28, 3) := by decide +kernel
theorem dX3_best_176 : decode cX3_best 176 = .ok (.getfield 194, 3) := by decide +kernel
theorem dX3_best_179 : decode cX3_best 179 = .ok (.iload_n 1, 1) := by decide +kernel
theorem dX3_best_180 : decode cX3_best 180 = .ok (.iaload, 1) := by decide +kernel
theorem dX3_best_181 : decode cX3_best 181 = .ok (.ireturn, 1) := by decide +kernel
theorem dX3_best_182 : decode cX3_best 182 = .ok (.aload_n 0, 1) := by decide +kernel
theorem dX3_best_183 : decode cX3_best 183 = .ok (.getfield 28, 3) := by decide +kernel
theorem dX3_best_186 : decode cX3_best 186 = .ok (.getfield 197, 3) := by decide +kernel
theorem dX3_best_189 : decode cX3_best 189 = .ok (.iload_n 1, 1) := by decide +kernel
theorem dX3_best_190 : decode cX3_best 190 = .ok (.iaload, 1) := by decide +kernel
theorem dX3_best_191 : decode cX3_best 191 = .ok (.ireturn, 1) := by decide +kernel
theorem dX3_best_192 : decode cX3_best 192 = .ok (.aload_n 0, 1) := by decide +kernel
theorem dX3_best_193 : decode cX3_best 193 = .ok (.getfield 28, 3) := by decide +kernel
theorem dX3_best_196 : decode cX3_best 196 = .ok (.getfield 200, 3) := by decide +kernel
theorem dX3_best_199 : decode cX3_best 199 = .ok (.iload_n 1, 1) := by decide +kernel
theorem dX3_best_200 : decode cX3_best 200 = .ok (.iaload, 1) := by decide +kernel
theorem dX3_best_201 : decode cX3_best 201 = .ok (.ldc 181, 2) := by decide +kernel
theorem dX3_best_203 : decode cX3_best 203 = .ok (.iadd, 1) := by decide +kernel
theorem dX3_best_204 : decode cX3_best 204 = .ok (.ireturn, 1) := by decide +kernel
theorem dX3_taken_0 : decode cX3_taken 0 = .ok (.aload_n 0, 1) := by decide +kernel
theorem dX3_taken_1 : decode cX3_taken 1 = .ok (.invokevirtual 203, 3) := by decide +kernel
theorem dX3_taken_4 : decode cX3_taken 4 = .ok (.ireturn, 1) := by decide +kernel
theorem dX3_load_0 : decode cX3_load 0 = .ok (.aload_n 0, 1) := by decide +kernel
theorem dX3_load_1 : decode cX3_load 1 = .ok (.invokevirtual 206, 3) := by decide +kernel
theorem dX3_load_4 : decode cX3_load 4 = .ok (.ifCond .le 6, 3) := by decide +kernel
theorem dX3_load_7 : decode cX3_load 7 = .ok (.bipush (-3), 2) := by decide +kernel
theorem dX3_load_9 : decode cX3_load 9 = .ok (.ireturn, 1) := by decide +kernel
theorem dX3_load_10 : decode cX3_load 10 = .ok (.aload_n 0, 1) := by decide +kernel
theorem dX3_load_11 : decode cX3_load 11 = .ok (.invokevirtual 203, 3) := by decide +kernel
theorem dX3_load_14 : decode cX3_load 14 = .ok (.istore_n 1, 1) := by decide +kernel
theorem dX3_load_15 : decode cX3_load 15 = .ok (.iload_n 1, 1) := by decide +kernel
theorem dX3_load_16 : decode cX3_load 16 = .ok (.ifCond .ne 6, 3) := by decide +kernel
theorem dX3_load_19 : decode cX3_load 19 = .ok (.bipush (-3), 2) := by decide +kernel
theorem dX3_load_21 : decode cX3_load 21 = .ok (.ireturn, 1) := by decide +kernel
theorem dX3_load_22 : decode cX3_load 22 = .ok (.iconst 0, 1) := by decide +kernel
theorem dX3_load_23 : decode cX3_load 23 = .ok (.istore_n 2, 1) := by decide +kernel
theorem dX3_load_24 : decode cX3_load 24 = .ok (.iload_n 2, 1) := by decide +kernel
theorem dX3_load_25 : decode cX3_load 25 = .ok (.aload_n 0, 1) := by decide +kernel
theorem dX3_load_26 : decode cX3_load 26 = .ok (.getfield 41, 3) := by decide +kernel
theorem dX3_load_29 : decode cX3_load 29 = .ok (.if_icmp .ge 55, 3) := by decide +kernel
theorem dX3_load_32 : decode cX3_load 32 = .ok (.aload_n 0, 1) := by decide +kernel
theorem dX3_load_33 : decode cX3_load 33 = .ok (.getfield 11, 3) := by decide +kernel
theorem dX3_load_36 : decode cX3_load 36 = .ok (.iload_n 2, 1) := by decide +kernel
theorem dX3_load_37 : decode cX3_load 37 = .ok (.aaload, 1) := by decide +kernel
theorem dX3_load_38 : decode cX3_load 38 = .ok (.aload_n 0, 1) := by decide +kernel
theorem dX3_load_39 : decode cX3_load 39 = .ok (.getfield 28, 3) := by decide +kernel
theorem dX3_load_42 : decode cX3_load 42 = .ok (.getfield 191, 3) := by decide +kernel
theorem dX3_load_45 : decode cX3_load 45 = .ok (.iload_n 1, 1) := by decide +kernel
theorem dX3_load_46 : decode cX3_load 46 = .ok (.bipush 6, 2) := by decide +kernel
theorem dX3_load_48 : decode cX3_load 48 = .ok (.imul, 1) := by decide +kernel
theorem dX3_load_49 : decode cX3_load 49 = .ok (.iload_n 2, 1) := by decide +kernel
theorem dX3_load_50 : decode cX3_load 50 = .ok (.iadd, 1) := by decide +kernel
theorem dX3_load_51 : decode cX3_load 51 = .ok (.iaload, 1) := by decide +kernel
theorem dX3_load_52 : decode cX3_load 52 = .ok (.putfield 124, 3) := by decide +kernel
theorem dX3_load_55 : decode cX3_load 55 = .ok (.aload_n 0, 1) := by decide +kernel
theorem dX3_load_56 : decode cX3_load 56 = .ok (.getfield 11, 3) := by decide +kernel
theorem dX3_load_59 : decode cX3_load 59 = .ok (.iload_n 2, 1) := by decide +kernel
theorem dX3_load_60 : decode cX3_load 60 = .ok (.aaload, 1) := by decide +kernel
theorem dX3_load_61 : decode cX3_load 61 = .ok (.aload_n 0, 1) := by decide +kernel
theorem dX3_load_62 : decode cX3_load 62 = .ok (.getfield 28, 3) := by decide +kernel
theorem dX3_load_65 : decode cX3_load 65 = .ok (.getfield 188, 3) := by decide +kernel
theorem dX3_load_68 : decode cX3_load 68 = .ok (.iload_n 1, 1) := by decide +kernel
theorem dX3_load_69 : decode cX3_load 69 = .ok (.bipush 6, 2) := by decide +kernel
theorem dX3_load_71 : decode cX3_load 71 = .ok (.imul, 1) := by decide +kernel
theorem dX3_load_72 : decode cX3_load 72 = .ok (.iload_n 2, 1) := by decide +kernel
theorem dX3_load_73 : decode cX3_load 73 = .ok (.iadd, 1) := by decide +kernel
theorem dX3_load_74 : decode cX3_load 74 = .ok (.iaload, 1) := by decide +kernel
theorem dX3_load_75 : decode cX3_load 75 = .ok (.putfield 127, 3) := by decide +kernel
theorem dX3_load_78 : decode cX3_load 78 = .ok (.iinc 2 1, 3) := by decide +kernel
theorem dX3_load_81 : decode cX3_load 81 = .ok (.goto (-57), 3) := by decide +kernel
theorem dX3_load_84 : decode cX3_load 84 = .ok (.aload_n 0, 1) := by decide +kernel
theorem dX3_load_85 : decode cX3_load 85 = .ok (.dup, 1) := by decide +kernel
theorem dX3_load_86 : decode cX3_load 86 = .ok (.getfield 51, 3) := by decide +kernel
theorem dX3_load_89 : decode cX3_load 89 = .ok (.aload_n 0, 1) := by decide +kernel
theorem dX3_load_90 : decode cX3_load 90 = .ok (.getfield 28, 3) := by decide +kernel
theorem dX3_load_93 : decode cX3_load 93 = .ok (.getfield 194, 3) := by decide +kernel
theorem dX3_load_96 : decode cX3_load 96 = .ok (.iload_n 1, 1) := by decide +kernel
theorem dX3_load_97 : decode cX3_load 97 = .ok (.iaload, 1) := by decide +kernel
theorem dX3_load_98 : decode cX3_load 98 = .ok (.iadd, 1) := by decide +kernel
theorem dX3_load_99 : decode cX3_load 99 = .ok (.putfield 51, 3) := by decide +kernel
theorem dX3_load_102 : decode cX3_load 102 = .ok (.aload_n 0, 1) := by decide +kernel
theorem dX3_load_103 : decode cX3_load 103 = .ok (.getfield 28, 3) := by decide +kernel
theorem dX3_load_106 : decode cX3_load 106 = .ok (.getfield 194, 3) := by decide +kernel
theorem dX3_load_109 : decode cX3_load 109 = .ok (.iload_n 1, 1) := by decide +kernel
theorem dX3_load_110 : decode cX3_load 110 = .ok (.iaload, 1) := by decide +kernel
theorem dX3_load_111 : decode cX3_load 111 = .ok (.ireturn, 1) := by decide +kernel
theorem dX3_unload_0 : decode cX3_unload 0 = .ok (.aload_n 0, 1) := by decide +kernel
theorem dX3_unload_1 : decode cX3_unload 1 = .ok (.iload_n 1, 1) := by decide +kernel
theorem dX3_unload_2 : decode cX3_unload 2 = .ok (.invokevirtual 121, 3) := by decide +kernel
theorem dX3_unload_5 : decode cX3_unload 5 = .ok (.ifCond .ne 5, 3) := by decide +kernel
theorem dX3_unload_8 : decode cX3_unload 8 = .ok (.iconst (-1), 1) := by decide +kernel
theorem dX3_unload_9 : decode cX3_unload 9 = .ok (.ireturn, 1) := by decide +kernel
theorem dX3_unload_10 : decode cX3_unload 10 = .ok (.iconst 0, 1) := by decide +kernel
theorem dX3_unload_11 : decode cX3_unload 11 = .ok (.istore_n 2, 1) := by decide +kernel
theorem dX3_unload_12 : decode cX3_unload 12 = .ok (.iconst 0, 1) := by decide +kernel
theorem dX3_unload_13 : decode cX3_unload 13 = .ok (.istore_n 3, 1) := by decide +kernel
theorem dX3_unload_14 : decode cX3_unload 14 = .ok (.iload_n 3, 1) := by decide +kernel
theorem dX3_unload_15 : decode cX3_unload 15 = .ok (.aload_n 0, 1) := by decide +kernel
theorem dX3_unload_16 : decode cX3_unload 16 = .ok (.getfield 41, 3) := by decide +kernel
theorem dX3_unload_19 : decode cX3_unload 19 = .ok (.if_icmp .ge 43, 3) := by decide +kernel
theorem dX3_unload_22 : decode cX3_unload 22 = .ok (.aload_n 0, 1) := by decide +kernel
theorem dX3_unload_23 : decode cX3_unload 23 = .ok (.getfield 11, 3) := by decide +kernel
theorem dX3_unload_26 : decode cX3_unload 26 = .ok (.iload_n 3, 1) := by decide +kernel
theorem dX3_unload_27 : decode cX3_unload 27 = .ok (.aaload, 1) := by decide +kernel
theorem dX3_unload_28 : decode cX3_unload 28 = .ok (.getfield 124, 3) := by decide +kernel
theorem dX3_unload_31 : decode cX3_unload 31 = .ok (.iload_n 1, 1) := by decide +kernel
theorem dX3_unload_32 : decode cX3_unload 32 = .ok (.if_icmp .ne 24, 3) := by decide +kernel
theorem dX3_unload_35 : decode cX3_unload 35 = .ok (.aload_n 0, 1) := by decide +kernel
theorem dX3_unload_36 : decode cX3_unload 36 = .ok (.getfield 11, 3) := by decide +kernel
theorem dX3_unload_39 : decode cX3_unload 39 = .ok (.iload_n 3, 1) := by decide +kernel
theorem dX3_unload_40 : decode cX3_unload 40 = .ok (.aaload, 1) := by decide +kernel
theorem dX3_unload_41 : decode cX3_unload 41 = .ok (.aload_n 0, 1) := by decide +kernel
theorem dX3_unload_42 : decode cX3_unload 42 = .ok (.getfield 17, 3) := by decide +kernel
theorem dX3_unload_45 : decode cX3_unload 45 = .ok (.iload_n 1, 1) := by decide +kernel
theorem dX3_unload_46 : decode cX3_unload 46 = .ok (.aaload, 1) := by decide +kernel
theorem dX3_unload_47 : decode cX3_unload 47 = .ok (.getfield 99, 3) := by decide +kernel
theorem dX3_unload_50 : decode cX3_unload 50 = .ok (.invokevirtual 209, 3) := by decide +kernel
theorem dX3_unload_53 : decode cX3_unload 53 = .ok (.iinc 2 1, 3) := by decide +kernel
theorem dX3_unload_56 : decode cX3_unload 56 = .ok (.iinc 3 1, 3) := by decide +kernel
theorem dX3_unload_59 : decode cX3_unload 59 = .ok (.goto (-45), 3) := by decide +kernel
theorem dX3_unload_62 : decode cX3_unload 62 = .ok (.iload_n 2, 1) := by decide +kernel
theorem dX3_unload_63 : decode cX3_unload 63 = .ok (.ifCond .ne 6, 3) := by decide +kernel
theorem dX3_unload_66 : decode cX3_unload 66 = .ok (.bipush (-3), 2) := by decide +kernel
theorem dX3_unload_68 : decode cX3_unload 68 = .ok (.ireturn, 1) := by decide +kernel
theorem dX3_unload_69 : decode cX3_unload 69 = .ok (.aload_n 0, 1) := by decide +kernel
theorem dX3_unload_70 : decode cX3_unload 70 = .ok (.iconst 0, 1) := by decide +kernel
theorem dX3_unload_71 : decode cX3_unload 71 = .ok (.putfield 54, 3) := by decide +kernel
theorem dX3_unload_74 : decode cX3_unload 74 = .ok (.iload_n 2, 1) := by decide +kernel
theorem dX3_unload_75 : decode cX3_unload 75 = .ok (.ireturn, 1) := by decide +kernel
theorem dX3_pour_0 : decode cX3_pour 0 = .ok (.aload_n 0, 1) := by decide +kernel
theorem dX3_pour_1 : decode cX3_pour 1 = .ok (.iload_n 1, 1) := by decide +kernel
theorem dX3_pour_2 : decode cX3_pour 2 = .ok (.iload_n 2, 1) := by decide +kernel
theorem dX3_pour_3 : decode cX3_pour 3 = .ok (.invokevirtual 73, 3) := by decide +kernel
theorem dX3_pour_6 : decode cX3_pour 6 = .ok (.ifCond .ne 5, 3) := by decide +kernel
theorem dX3_pour_9 : decode cX3_pour 9 = .ok (.iconst (-1), 1) := by decide +kernel
theorem dX3_pour_10 : decode cX3_pour 10 = .ok (.ireturn, 1) := by decide +kernel
theorem dX3_pour_11 : decode cX3_pour 11 = .ok (.iload_n 3, 1) := by decide +kernel
theorem dX3_pour_12 : decode cX3_pour 12 = .ok (.iconst 1, 1) := by decide +kernel
theorem dX3_pour_13 : decode cX3_pour 13 = .ok (.bipush 99, 2) := by decide +kernel
theorem dX3_pour_15 : decode cX3_pour 15 = .ok (.invokestatic 60, 3) := by decide +kernel
theorem dX3_pour_18 : decode cX3_pour 18 = .ok (.ifCond .ne 6, 3) := by decide +kernel
theorem dX3_pour_21 : decode cX3_pour 21 = .ok (.bipush (-2), 2) := by decide +kernel
theorem dX3_pour_23 : decode cX3_pour 23 = .ok (.ireturn, 1) := by decide +kernel
theorem dX3_pour_24 : decode cX3_pour 24 = .ok (.aload_n 0, 1) := by decide +kernel
theorem dX3_pour_25 : decode cX3_pour 25 = .ok (.getfield 11, 3) := by decide +kernel
theorem dX3_pour_28 : decode cX3_pour 28 = .ok (.iload_n 1, 1) := by decide +kernel
theorem dX3_pour_29 : decode cX3_pour 29 = .ok (.aaload, 1) := by decide +kernel
theorem dX3_pour_30 : decode cX3_pour 30 = .ok (.astore 4, 2) := by decide +kernel
theorem dX3_pour_32 : decode cX3_pour 32 = .ok (.aload_n 0, 1) := by decide +kernel
theorem dX3_pour_33 : decode cX3_pour 33 = .ok (.getfield 11, 3) := by decide +kernel
theorem dX3_pour_36 : decode cX3_pour 36 = .ok (.iload_n 2, 1) := by decide +kernel
theorem dX3_pour_37 : decode cX3_pour 37 = .ok (.aaload, 1) := by decide +kernel
theorem dX3_pour_38 : decode cX3_pour 38 = .ok (.astore 5, 2) := by decide +kernel
theorem dX3_pour_40 : decode cX3_pour 40 = .ok (.aload 4, 2) := by decide +kernel
theorem dX3_pour_42 : decode cX3_pour 42 = .ok (.getfield 124, 3) := by decide +kernel
theorem dX3_pour_45 : decode cX3_pour 45 = .ok (.istore 6, 2) := by decide +kernel
theorem dX3_pour_47 : decode cX3_pour 47 = .ok (.aload 4, 2) := by decide +kernel
theorem dX3_pour_49 : decode cX3_pour 49 = .ok (.getfield 127, 3) := by decide +kernel
theorem dX3_pour_52 : decode cX3_pour 52 = .ok (.iload_n 3, 1) := by decide +kernel
theorem dX3_pour_53 : decode cX3_pour 53 = .ok (.if_icmp .lt 27, 3) := by decide +kernel
theorem dX3_pour_56 : decode cX3_pour 56 = .ok (.aload 5, 2) := by decide +kernel
theorem dX3_pour_58 : decode cX3_pour 58 = .ok (.getfield 64, 3) := by decide +kernel
theorem dX3_pour_61 : decode cX3_pour 61 = .ok (.aload 5, 2) := by decide +kernel
theorem dX3_pour_63 : decode cX3_pour 63 = .ok (.getfield 127, 3) := by decide +kernel
theorem dX3_pour_66 : decode cX3_pour 66 = .ok (.isub, 1) := by decide +kernel
theorem dX3_pour_67 : decode cX3_pour 67 = .ok (.iload_n 3, 1) := by decide +kernel
theorem dX3_pour_68 : decode cX3_pour 68 = .ok (.if_icmp .lt 12, 3) := by decide +kernel
theorem dX3_pour_71 : decode cX3_pour 71 = .ok (.aload_n 0, 1) := by decide +kernel
theorem dX3_pour_72 : decode cX3_pour 72 = .ok (.iload 6, 2) := by decide +kernel
theorem dX3_pour_74 : decode cX3_pour 74 = .ok (.invokevirtual 121, 3) := by decide +kernel
theorem dX3_pour_77 : decode cX3_pour 77 = .ok (.ifCond .ne 6, 3) := by decide +kernel
theorem dX3_pour_80 : decode cX3_pour 80 = .ok (.bipush (-3), 2) := by decide +kernel
theorem dX3_pour_82 : decode cX3_pour 82 = .ok (.ireturn, 1) := by decide +kernel
theorem dX3_pour_83 : decode cX3_pour 83 = .ok (.aload 5, 2) := by decide +kernel
theorem dX3_pour_85 : decode cX3_pour 85 = .ok (.getfield 124, 3) := by decide +kernel
theorem dX3_pour_88 : decode cX3_pour 88 = .ok (.iload 6, 2) := by decide +kernel
theorem dX3_pour_90 : decode cX3_pour 90 = .ok (.if_icmp .eq 51, 3) := by decide +kernel
theorem dX3_pour_93 : decode cX3_pour 93 = .ok (.aload_n 0, 1) := by decide +kernel
theorem dX3_pour_94 : decode cX3_pour 94 = .ok (.aload 5, 2) := by decide +kernel
theorem dX3_pour_96 : decode cX3_pour 96 = .ok (.aload_n 0, 1) := by decide +kernel
theorem dX3_pour_97 : decode cX3_pour 97 = .ok (.getfield 17, 3) := by decide +kernel
theorem dX3_pour_100 : decode cX3_pour 100 = .ok (.iload 6, 2) := by decide +kernel
theorem dX3_pour_102 : decode cX3_pour 102 = .ok (.aaload, 1) := by decide +kernel
theorem dX3_pour_103 : decode cX3_pour 103 = .ok (.invokevirtual 213, 3) := by decide +kernel
theorem dX3_pour_106 : decode cX3_pour 106 = .ok (.ifCond .ne 6, 3) := by decide +kernel
theorem dX3_pour_109 : decode cX3_pour 109 = .ok (.bipush (-3), 2) := by decide +kernel
theorem dX3_pour_111 : decode cX3_pour 111 = .ok (.ireturn, 1) := by decide +kernel
theorem dX3_pour_112 : decode cX3_pour 112 = .ok (.aload_n 0, 1) := by decide +kernel
theorem dX3_pour_113 : decode cX3_pour 113 = .ok (.dup, 1) := by decide +kernel
theorem dX3_pour_114 : decode cX3_pour 114 = .ok (.getfield 51, 3) := by decide +kernel
theorem dX3_pour_117 : decode cX3_pour 117 = .ok (.aload_n 0, 1) := by decide +kernel
theorem dX3_pour_118 : decode cX3_pour 118 = .ok (.aload 5, 2) := by decide +kernel
theorem dX3_pour_120 : decode cX3_pour 120 = .ok (.aload_n 0, 1) := by decide +kernel
theorem dX3_pour_121 : decode cX3_pour 121 = .ok (.getfield 17, 3) := by decide +kernel
theorem dX3_pour_124 : decode cX3_pour 124 = .ok (.iload 6, 2) := by decide +kernel
theorem dX3_pour_126 : decode cX3_pour 126 = .ok (.aaload, 1) := by decide +kernel
theorem dX3_pour_127 : decode cX3_pour 127 = .ok (.invokevirtual 137, 3) := by decide +kernel
theorem dX3_pour_130 : decode cX3_pour 130 = .ok (.iadd, 1) := by decide +kernel
theorem dX3_pour_131 : decode cX3_pour 131 = .ok (.putfield 51, 3) := by decide +kernel
theorem dX3_pour_134 : decode cX3_pour 134 = .ok (.aload 5, 2) := by decide +kernel
theorem dX3_pour_136 : decode cX3_pour 136 = .ok (.iload 6, 2) := by decide +kernel
theorem dX3_pour_138 : decode cX3_pour 138 = .ok (.putfield 124, 3) := by decide +kernel
theorem dX3_pour_141 : decode cX3_pour 141 = .ok (.aload 5, 2) := by decide +kernel
theorem dX3_pour_143 : decode cX3_pour 143 = .ok (.dup, 1) := by decide +kernel
theorem dX3_pour_144 : decode cX3_pour 144 = .ok (.getfield 127, 3) := by decide +kernel
theorem dX3_pour_147 : decode cX3_pour 147 = .ok (.iload_n 3, 1) := by decide +kernel
theorem dX3_pour_148 : decode cX3_pour 148 = .ok (.iadd, 1) := by decide +kernel
theorem dX3_pour_149 : decode cX3_pour 149 = .ok (.putfield 127, 3) := by decide +kernel
theorem dX3_pour_152 : decode cX3_pour 152 = .ok (.aload 4, 2) := by decide +kernel
theorem dX3_pour_154 : decode cX3_pour 154 = .ok (.dup, 1) := by decide +kernel
theorem dX3_pour_155 : decode cX3_pour 155 = .ok (.getfield 127, 3) := by decide +kernel
theorem dX3_pour_158 : decode cX3_pour 158 = .ok (.iload_n 3, 1) := by decide +kernel
theorem dX3_pour_159 : decode cX3_pour 159 = .ok (.isub, 1) := by decide +kernel
theorem dX3_pour_160 : decode cX3_pour 160 = .ok (.putfield 127, 3) := by decide +kernel
theorem dX3_pour_163 : decode cX3_pour 163 = .ok (.aload 4, 2) := by decide +kernel
theorem dX3_pour_165 : decode cX3_pour 165 = .ok (.getfield 127, 3) := by decide +kernel
theorem dX3_pour_168 : decode cX3_pour 168 = .ok (.ifCond .ne 23, 3) := by decide +kernel
theorem dX3_pour_171 : decode cX3_pour 171 = .ok (.aload 4, 2) := by decide +kernel
theorem dX3_pour_173 : decode cX3_pour 173 = .ok (.aload_n 0, 1) := by decide +kernel
theorem dX3_pour_174 : decode cX3_pour 174 = .ok (.getfield 17, 3) := by decide +kernel
theorem dX3_pour_177 : decode cX3_pour 177 = .ok (.iload 6, 2) := by decide +kernel
theorem dX3_pour_179 : decode cX3_pour 179 = .ok (.aaload, 1) := by decide +kernel
theorem dX3_pour_180 : decode cX3_pour 180 = .ok (.getfield 99, 3) := by decide +kernel
theorem dX3_pour_183 : decode cX3_pour 183 = .ok (.invokevirtual 209, 3) := by decide +kernel
theorem dX3_pour_186 : decode cX3_pour 186 = .ok (.aload_n 0, 1) := by decide +kernel
theorem dX3_pour_187 : decode cX3_pour 187 = .ok (.iconst 0, 1) := by decide +kernel
theorem dX3_pour_188 : decode cX3_pour 188 = .ok (.putfield 54, 3) := by decide +kernel
theorem dX3_pour_191 : decode cX3_pour 191 = .ok (.aload 5, 2) := by decide +kernel
theorem dX3_pour_193 : decode cX3_pour 193 = .ok (.getfield 127, 3) := by decide +kernel
theorem dX3_pour_196 : decode cX3_pour 196 = .ok (.ireturn, 1) := by decide +kernel
theorem dX3_many_0 : decode cX3_many 0 = .ok (.iload_n 1, 1) := by decide +kernel
theorem dX3_many_1 : decode cX3_many 1 = .ok (.tableswitch 63 0 4 #[35, 40, 45, 50, 55], 35) := by decide +kernel
theorem dX3_many_36 : decode cX3_many 36 = .ok (.aload_n 0, 1) := by decide +kernel
theorem dX3_many_37 : decode cX3_many 37 = .ok (.getfield 41, 3) := by decide +kernel
theorem dX3_many_40 : decode cX3_many 40 = .ok (.ireturn, 1) := by decide +kernel
theorem dX3_many_41 : decode cX3_many 41 = .ok (.aload_n 0, 1) := by decide +kernel
theorem dX3_many_42 : decode cX3_many 42 = .ok (.getfield 45, 3) := by decide +kernel
theorem dX3_many_45 : decode cX3_many 45 = .ok (.ireturn, 1) := by decide +kernel
theorem dX3_many_46 : decode cX3_many 46 = .ok (.aload_n 0, 1) := by decide +kernel
theorem dX3_many_47 : decode cX3_many 47 = .ok (.invokevirtual 206, 3) := by decide +kernel
theorem dX3_many_50 : decode cX3_many 50 = .ok (.ireturn, 1) := by decide +kernel
theorem dX3_many_51 : decode cX3_many 51 = .ok (.aload_n 0, 1) := by decide +kernel
theorem dX3_many_52 : decode cX3_many 52 = .ok (.getfield 51, 3) := by decide +kernel
theorem dX3_many_55 : decode cX3_many 55 = .ok (.ireturn, 1) := by decide +kernel
theorem dX3_many_56 : decode cX3_many 56 = .ok (.aload_n 0, 1) := by decide +kernel
theorem dX3_many_57 : decode cX3_many 57 = .ok (.invokevirtual 217, 3) := by decide +kernel
theorem dX3_many_60 : decode cX3_many 60 = .ok (.ldc 181, 2) := by decide +kernel
theorem dX3_many_62 : decode cX3_many 62 = .ok (.iadd, 1) := by decide +kernel
theorem dX3_many_63 : decode cX3_many 63 = .ok (.ireturn, 1) := by decide +kernel
theorem dX3_many_64 : decode cX3_many 64 = .ok (.bipush (-2), 2) := by decide +kernel
theorem dX3_many_66 : decode cX3_many 66 = .ok (.ireturn, 1) := by decide +kernel
theorem dX3_within_0 : decode cX3_within 0 = .ok (.iload_n 0, 1) := by decide +kernel
theorem dX3_within_1 : decode cX3_within 1 = .ok (.iload_n 1, 1) := by decide +kernel
theorem dX3_within_2 : decode cX3_within 2 = .ok (.if_icmp .lt 12, 3) := by decide +kernel
theorem dX3_within_5 : decode cX3_within 5 = .ok (.iload_n 0, 1) := by decide +kernel
theorem dX3_within_6 : decode cX3_within 6 = .ok (.iload_n 2, 1) := by decide +kernel
theorem dX3_within_7 : decode cX3_within 7 = .ok (.if_icmp .gt 7, 3) := by decide +kernel
theorem dX3_within_10 : decode cX3_within 10 = .ok (.iconst 1, 1) := by decide +kernel
theorem dX3_within_11 : decode cX3_within 11 = .ok (.goto 4, 3) := by decide +kernel
theorem dX3_within_14 : decode cX3_within 14 = .ok (.iconst 0, 1) := by decide +kernel
theorem dX3_within_15 : decode cX3_within 15 = .ok (.ireturn, 1) := by decide +kernel
theorem dX3_isLiquid_0 : decode cX3_isLiquid 0 = .ok (.iload_n 0, 1) := by decide +kernel
theorem dX3_isLiquid_1 : decode cX3_isLiquid 1 = .ok (.iconst 0, 1) := by decide +kernel
theorem dX3_isLiquid_2 : decode cX3_isLiquid 2 = .ok (.bipush 7, 2) := by decide +kernel
theorem dX3_isLiquid_4 : decode cX3_isLiquid 4 = .ok (.invokestatic 60, 3) := by decide +kernel
theorem dX3_isLiquid_7 : decode cX3_isLiquid 7 = .ok (.ireturn, 1) := by decide +kernel
theorem dX3_isLiquidSet_0 : decode cX3_isLiquidSet 0 = .ok (.iload_n 0, 1) := by decide +kernel
theorem dX3_isLiquidSet_1 : decode cX3_isLiquidSet 1 = .ok (.iconst 0, 1) := by decide +kernel
theorem dX3_isLiquidSet_2 : decode cX3_isLiquidSet 2 = .ok (.sipush 255, 3) := by decide +kernel
theorem dX3_isLiquidSet_5 : decode cX3_isLiquidSet 5 = .ok (.invokestatic 60, 3) := by decide +kernel
theorem dX3_isLiquidSet_8 : decode cX3_isLiquidSet 8 = .ok (.ireturn, 1) := by decide +kernel
theorem dX3_isAmount_0 : decode cX3_isAmount 0 = .ok (.iload_n 0, 1) := by decide +kernel
theorem dX3_isAmount_1 : decode cX3_isAmount 1 = .ok (.iconst 1, 1) := by decide +kernel
theorem dX3_isAmount_2 : decode cX3_isAmount 2 = .ok (.sipush 400, 3) := by decide +kernel
theorem dX3_isAmount_5 : decode cX3_isAmount 5 = .ok (.invokestatic 60, 3) := by decide +kernel
theorem dX3_isAmount_8 : decode cX3_isAmount 8 = .ok (.ireturn, 1) := by decide +kernel
theorem dX3_isTank_0 : decode cX3_isTank 0 = .ok (.iload_n 1, 1) := by decide +kernel
theorem dX3_isTank_1 : decode cX3_isTank 1 = .ok (.ifCond .lt 15, 3) := by decide +kernel
theorem dX3_isTank_4 : decode cX3_isTank 4 = .ok (.iload_n 1, 1) := by decide +kernel
theorem dX3_isTank_5 : decode cX3_isTank 5 = .ok (.aload_n 0, 1) := by decide +kernel
theorem dX3_isTank_6 : decode cX3_isTank 6 = .ok (.getfield 41, 3) := by decide +kernel
theorem dX3_isTank_9 : decode cX3_isTank 9 = .ok (.if_icmp .ge 7, 3) := by decide +kernel
theorem dX3_isTank_12 : decode cX3_isTank 12 = .ok (.iconst 1, 1) := by decide +kernel
theorem dX3_isTank_13 : decode cX3_isTank 13 = .ok (.goto 4, 3) := by decide +kernel
theorem dX3_isTank_16 : decode cX3_isTank 16 = .ok (.iconst 0, 1) := by decide +kernel
end
section
theorem dX3_isTank_17 : decode cX3_isTank 17 = .ok (.ireturn, 1) := by decide +kernel
theorem dX3_areTwoTanks_0 : decode cX3_areTwoTanks 0 = .ok (.aload_n 0, 1) := by decide +kernel
theorem dX3_areTwoTanks_1 : decode cX3_areTwoTanks 1 = .ok (.iload_n 1, 1) := by decide +kernel
theorem dX3_areTwoTanks_2 : decode cX3_areTwoTanks 2 = .ok (.invokevirtual 83, 3) := by decide +kernel
theorem dX3_areTwoTanks_5 : decode cX3_areTwoTanks 5 = .ok (.ifCond .eq 20, 3) := by decide +kernel
theorem dX3_areTwoTanks_8 : decode cX3_areTwoTanks 8 = .ok (.aload_n 0, 1) := by decide +kernel
theorem dX3_areTwoTanks_9 : decode cX3_areTwoTanks 9 = .ok (.iload_n 2, 1) := by decide +kernel
theorem dX3_areTwoTanks_10 : decode cX3_areTwoTanks 10 = .ok (.invokevirtual 83, 3) := by decide +kernel
theorem dX3_areTwoTanks_13 : decode cX3_areTwoTanks 13 = .ok (.ifCond .eq 12, 3) := by decide +kernel
theorem dX3_areTwoTanks_16 : decode cX3_areTwoTanks 16 = .ok (.iload_n 1, 1) := by decide +kernel
theorem dX3_areTwoTanks_17 : decode cX3_areTwoTanks 17 = .ok (.iload_n 2, 1) := by decide +kernel
theorem dX3_areTwoTanks_18 : decode cX3_areTwoTanks 18 = .ok (.if_icmp .eq 7, 3) := by decide +kernel
theorem dX3_areTwoTanks_21 : decode cX3_areTwoTanks 21 = .ok (.iconst 1, 1) := by decide +kernel
theorem dX3_areTwoTanks_22 : decode cX3_areTwoTanks 22 = .ok (.goto 4, 3) := by decide +kernel
theorem dX3_areTwoTanks_25 : decode cX3_areTwoTanks 25 = .ok (.iconst 0, 1) := by decide +kernel
theorem dX3_areTwoTanks_26 : decode cX3_areTwoTanks 26 = .ok (.ireturn, 1) := by decide +kernel
theorem dX3_isCargo_0 : decode cX3_isCargo 0 = .ok (.iload_n 1, 1) := by decide +kernel
theorem dX3_isCargo_1 : decode cX3_isCargo 1 = .ok (.ifCond .lt 15, 3) := by decide +kernel
theorem dX3_isCargo_4 : decode cX3_isCargo 4 = .ok (.iload_n 1, 1) := by decide +kernel
theorem dX3_isCargo_5 : decode cX3_isCargo 5 = .ok (.aload_n 0, 1) := by decide +kernel
theorem dX3_isCargo_6 : decode cX3_isCargo 6 = .ok (.getfield 45, 3) := by decide +kernel
theorem dX3_isCargo_9 : decode cX3_isCargo 9 = .ok (.if_icmp .ge 7, 3) := by decide +kernel
theorem dX3_isCargo_12 : decode cX3_isCargo 12 = .ok (.iconst 1, 1) := by decide +kernel
theorem dX3_isCargo_13 : decode cX3_isCargo 13 = .ok (.goto 4, 3) := by decide +kernel
theorem dX3_isCargo_16 : decode cX3_isCargo 16 = .ok (.iconst 0, 1) := by decide +kernel
theorem dX3_isCargo_17 : decode cX3_isCargo 17 = .ok (.ireturn, 1) := by decide +kernel
theorem dX3_isCargoSet_0 : decode cX3_isCargoSet 0 = .ok (.iload_n 1, 1) := by decide +kernel
theorem dX3_isCargoSet_1 : decode cX3_isCargoSet 1 = .ok (.ifCond .lt 17, 3) := by decide +kernel
theorem dX3_isCargoSet_4 : decode cX3_isCargoSet 4 = .ok (.iload_n 1, 1) := by decide +kernel
theorem dX3_isCargoSet_5 : decode cX3_isCargoSet 5 = .ok (.iconst 1, 1) := by decide +kernel
theorem dX3_isCargoSet_6 : decode cX3_isCargoSet 6 = .ok (.aload_n 0, 1) := by decide +kernel
theorem dX3_isCargoSet_7 : decode cX3_isCargoSet 7 = .ok (.getfield 45, 3) := by decide +kernel
theorem dX3_isCargoSet_10 : decode cX3_isCargoSet 10 = .ok (.ishl, 1) := by decide +kernel
theorem dX3_isCargoSet_11 : decode cX3_isCargoSet 11 = .ok (.if_icmp .ge 7, 3) := by decide +kernel
theorem dX3_isCargoSet_14 : decode cX3_isCargoSet 14 = .ok (.iconst 1, 1) := by decide +kernel
theorem dX3_isCargoSet_15 : decode cX3_isCargoSet 15 = .ok (.goto 4, 3) := by decide +kernel
theorem dX3_isCargoSet_18 : decode cX3_isCargoSet 18 = .ok (.iconst 0, 1) := by decide +kernel
theorem dX3_isCargoSet_19 : decode cX3_isCargoSet 19 = .ok (.ireturn, 1) := by decide +kernel
theorem dX3_has_0 : decode cX3_has 0 = .ok (.iload_n 1, 1) := by decide +kernel
theorem dX3_has_1 : decode cX3_has 1 = .ok (.ifCond .lt 15, 3) := by decide +kernel
theorem dX3_has_4 : decode cX3_has 4 = .ok (.iload_n 0, 1) := by decide +kernel
theorem dX3_has_5 : decode cX3_has 5 = .ok (.iload_n 1, 1) := by decide +kernel
theorem dX3_has_6 : decode cX3_has 6 = .ok (.ishr, 1) := by decide +kernel
theorem dX3_has_7 : decode cX3_has 7 = .ok (.iconst 1, 1) := by decide +kernel
theorem dX3_has_8 : decode cX3_has 8 = .ok (.iand, 1) := by decide +kernel
theorem dX3_has_9 : decode cX3_has 9 = .ok (.ifCond .eq 7, 3) := by decide +kernel
theorem dX3_has_12 : decode cX3_has 12 = .ok (.iconst 1, 1) := by decide +kernel
theorem dX3_has_13 : decode cX3_has 13 = .ok (.goto 4, 3) := by decide +kernel
theorem dX3_has_16 : decode cX3_has 16 = .ok (.iconst 0, 1) := by decide +kernel
theorem dX3_has_17 : decode cX3_has 17 = .ok (.ireturn, 1) := by decide +kernel
theorem dX3_faults_0 : decode cX3_faults 0 = .ok (.aload_n 2, 1) := by decide +kernel
theorem dX3_faults_1 : decode cX3_faults 1 = .ok (.getfield 105, 3) := by decide +kernel
theorem dX3_faults_4 : decode cX3_faults 4 = .ok (.aload_n 1, 1) := by decide +kernel
theorem dX3_faults_5 : decode cX3_faults 5 = .ok (.getfield 67, 3) := by decide +kernel
theorem dX3_faults_8 : decode cX3_faults 8 = .ok (.invokestatic 80, 3) := by decide +kernel
theorem dX3_faults_11 : decode cX3_faults 11 = .ok (.ifCond .eq 7, 3) := by decide +kernel
theorem dX3_faults_14 : decode cX3_faults 14 = .ok (.iconst 0, 1) := by decide +kernel
theorem dX3_faults_15 : decode cX3_faults 15 = .ok (.goto 4, 3) := by decide +kernel
theorem dX3_faults_18 : decode cX3_faults 18 = .ok (.iconst 1, 1) := by decide +kernel
theorem dX3_faults_19 : decode cX3_faults 19 = .ok (.istore_n 3, 1) := by decide +kernel
theorem dX3_faults_20 : decode cX3_faults 20 = .ok (.aload_n 2, 1) := by decide +kernel
theorem dX3_faults_21 : decode cX3_faults 21 = .ok (.getfield 108, 3) := by decide +kernel
theorem dX3_faults_24 : decode cX3_faults 24 = .ok (.aload_n 1, 1) := by decide +kernel
theorem dX3_faults_25 : decode cX3_faults 25 = .ok (.getfield 90, 3) := by decide +kernel
theorem dX3_faults_28 : decode cX3_faults 28 = .ok (.iconst 0, 1) := by decide +kernel
theorem dX3_faults_29 : decode cX3_faults 29 = .ok (.iaload, 1) := by decide +kernel
theorem dX3_faults_30 : decode cX3_faults 30 = .ok (.invokestatic 80, 3) := by decide +kernel
theorem dX3_faults_33 : decode cX3_faults 33 = .ok (.ifCond .eq 7, 3) := by decide +kernel
theorem dX3_faults_36 : decode cX3_faults 36 = .ok (.iload_n 3, 1) := by decide +kernel
theorem dX3_faults_37 : decode cX3_faults 37 = .ok (.iconst 2, 1) := by decide +kernel
theorem dX3_faults_38 : decode cX3_faults 38 = .ok (.ior, 1) := by decide +kernel
theorem dX3_faults_39 : decode cX3_faults 39 = .ok (.istore_n 3, 1) := by decide +kernel
theorem dX3_faults_40 : decode cX3_faults 40 = .ok (.iconst 0, 1) := by decide +kernel
theorem dX3_faults_41 : decode cX3_faults 41 = .ok (.istore 4, 2) := by decide +kernel
theorem dX3_faults_43 : decode cX3_faults 43 = .ok (.iload 4, 2) := by decide +kernel
theorem dX3_faults_45 : decode cX3_faults 45 = .ok (.iconst 3, 1) := by decide +kernel
theorem dX3_faults_46 : decode cX3_faults 46 = .ok (.if_icmp .ge 30, 3) := by decide +kernel
theorem dX3_faults_49 : decode cX3_faults 49 = .ok (.aload_n 2, 1) := by decide +kernel
theorem dX3_faults_50 : decode cX3_faults 50 = .ok (.getfield 111, 3) := by decide +kernel
theorem dX3_faults_53 : decode cX3_faults 53 = .ok (.aload_n 1, 1) := by decide +kernel
theorem dX3_faults_54 : decode cX3_faults 54 = .ok (.getfield 90, 3) := by decide +kernel
theorem dX3_faults_57 : decode cX3_faults 57 = .ok (.iload 4, 2) := by decide +kernel
theorem dX3_faults_59 : decode cX3_faults 59 = .ok (.iaload, 1) := by decide +kernel
theorem dX3_faults_60 : decode cX3_faults 60 = .ok (.invokestatic 80, 3) := by decide +kernel
theorem dX3_faults_63 : decode cX3_faults 63 = .ok (.ifCond .eq 7, 3) := by decide +kernel
theorem dX3_faults_66 : decode cX3_faults 66 = .ok (.iload_n 3, 1) := by decide +kernel
theorem dX3_faults_67 : decode cX3_faults 67 = .ok (.iconst 4, 1) := by decide +kernel
theorem dX3_faults_68 : decode cX3_faults 68 = .ok (.ior, 1) := by decide +kernel
theorem dX3_faults_69 : decode cX3_faults 69 = .ok (.istore_n 3, 1) := by decide +kernel
theorem dX3_faults_70 : decode cX3_faults 70 = .ok (.iinc 4 1, 3) := by decide +kernel
theorem dX3_faults_73 : decode cX3_faults 73 = .ok (.goto (-30), 3) := by decide +kernel
theorem dX3_faults_76 : decode cX3_faults 76 = .ok (.iload_n 3, 1) := by decide +kernel
theorem dX3_faults_77 : decode cX3_faults 77 = .ok (.ireturn, 1) := by decide +kernel
theorem dX3_washesNeeded_0 : decode cX3_washesNeeded 0 = .ok (.aload_n 1, 1) := by decide +kernel
theorem dX3_washesNeeded_1 : decode cX3_washesNeeded 1 = .ok (.getfield 90, 3) := by decide +kernel
theorem dX3_washesNeeded_4 : decode cX3_washesNeeded 4 = .ok (.iconst 0, 1) := by decide +kernel
theorem dX3_washesNeeded_5 : decode cX3_washesNeeded 5 = .ok (.iaload, 1) := by decide +kernel
theorem dX3_washesNeeded_6 : decode cX3_washesNeeded 6 = .ok (.istore_n 3, 1) := by decide +kernel
theorem dX3_washesNeeded_7 : decode cX3_washesNeeded 7 = .ok (.iload_n 3, 1) := by decide +kernel
theorem dX3_washesNeeded_8 : decode cX3_washesNeeded 8 = .ok (.invokestatic 87, 3) := by decide +kernel
theorem dX3_washesNeeded_11 : decode cX3_washesNeeded 11 = .ok (.ifCond .eq 20, 3) := by decide +kernel
theorem dX3_washesNeeded_14 : decode cX3_washesNeeded 14 = .ok (.aload_n 0, 1) := by decide +kernel
theorem dX3_washesNeeded_15 : decode cX3_washesNeeded 15 = .ok (.getfield 21, 3) := by decide +kernel
theorem dX3_washesNeeded_18 : decode cX3_washesNeeded 18 = .ok (.iload_n 3, 1) := by decide +kernel
theorem dX3_washesNeeded_19 : decode cX3_washesNeeded 19 = .ok (.bipush 8, 2) := by decide +kernel
theorem dX3_washesNeeded_21 : decode cX3_washesNeeded 21 = .ok (.imul, 1) := by decide +kernel
theorem dX3_washesNeeded_22 : decode cX3_washesNeeded 22 = .ok (.aload_n 2, 1) := by decide +kernel
theorem dX3_washesNeeded_23 : decode cX3_washesNeeded 23 = .ok (.getfield 99, 3) := by decide +kernel
theorem dX3_washesNeeded_26 : decode cX3_washesNeeded 26 = .ok (.iadd, 1) := by decide +kernel
theorem dX3_washesNeeded_27 : decode cX3_washesNeeded 27 = .ok (.iaload, 1) := by decide +kernel
theorem dX3_washesNeeded_28 : decode cX3_washesNeeded 28 = .ok (.goto 4, 3) := by decide +kernel
theorem dX3_washesNeeded_31 : decode cX3_washesNeeded 31 = .ok (.iconst 0, 1) := by decide +kernel
theorem dX3_washesNeeded_32 : decode cX3_washesNeeded 32 = .ok (.ireturn, 1) := by decide +kernel
theorem dX3_clash_0 : decode cX3_clash 0 = .ok (.aload_n 1, 1) := by decide +kernel
theorem dX3_clash_1 : decode cX3_clash 1 = .ok (.getfield 114, 3) := by decide +kernel
theorem dX3_clash_4 : decode cX3_clash 4 = .ok (.aload_n 0, 1) := by decide +kernel
theorem dX3_clash_5 : decode cX3_clash 5 = .ok (.getfield 99, 3) := by decide +kernel
theorem dX3_clash_8 : decode cX3_clash 8 = .ok (.invokestatic 80, 3) := by decide +kernel
theorem dX3_clash_11 : decode cX3_clash 11 = .ok (.ifCond .ne 17, 3) := by decide +kernel
theorem dX3_clash_14 : decode cX3_clash 14 = .ok (.aload_n 0, 1) := by decide +kernel
theorem dX3_clash_15 : decode cX3_clash 15 = .ok (.getfield 114, 3) := by decide +kernel
theorem dX3_clash_18 : decode cX3_clash 18 = .ok (.aload_n 1, 1) := by decide +kernel
theorem dX3_clash_19 : decode cX3_clash 19 = .ok (.getfield 99, 3) := by decide +kernel
theorem dX3_clash_22 : decode cX3_clash 22 = .ok (.invokestatic 80, 3) := by decide +kernel
theorem dX3_clash_25 : decode cX3_clash 25 = .ok (.ifCond .eq 7, 3) := by decide +kernel
theorem dX3_clash_28 : decode cX3_clash 28 = .ok (.iconst 1, 1) := by decide +kernel
theorem dX3_clash_29 : decode cX3_clash 29 = .ok (.goto 4, 3) := by decide +kernel
theorem dX3_clash_32 : decode cX3_clash 32 = .ok (.iconst 0, 1) := by decide +kernel
theorem dX3_clash_33 : decode cX3_clash 33 = .ok (.ireturn, 1) := by decide +kernel
theorem dX3_tanksThatSuit_0 : decode cX3_tanksThatSuit 0 = .ok (.iconst 0, 1) := by decide +kernel
theorem dX3_tanksThatSuit_1 : decode cX3_tanksThatSuit 1 = .ok (.istore_n 2, 1) := by decide +kernel
theorem dX3_tanksThatSuit_2 : decode cX3_tanksThatSuit 2 = .ok (.iconst 0, 1) := by decide +kernel
theorem dX3_tanksThatSuit_3 : decode cX3_tanksThatSuit 3 = .ok (.istore_n 3, 1) := by decide +kernel
theorem dX3_tanksThatSuit_4 : decode cX3_tanksThatSuit 4 = .ok (.iload_n 3, 1) := by decide +kernel
theorem dX3_tanksThatSuit_5 : decode cX3_tanksThatSuit 5 = .ok (.aload_n 0, 1) := by decide +kernel
theorem dX3_tanksThatSuit_6 : decode cX3_tanksThatSuit 6 = .ok (.getfield 41, 3) := by decide +kernel
theorem dX3_tanksThatSuit_9 : decode cX3_tanksThatSuit 9 = .ok (.if_icmp .ge 29, 3) := by decide +kernel
theorem dX3_tanksThatSuit_12 : decode cX3_tanksThatSuit 12 = .ok (.aload_n 0, 1) := by decide +kernel
theorem dX3_tanksThatSuit_13 : decode cX3_tanksThatSuit 13 = .ok (.aload_n 0, 1) := by decide +kernel
theorem dX3_tanksThatSuit_14 : decode cX3_tanksThatSuit 14 = .ok (.getfield 11, 3) := by decide +kernel
theorem dX3_tanksThatSuit_17 : decode cX3_tanksThatSuit 17 = .ok (.iload_n 3, 1) := by decide +kernel
theorem dX3_tanksThatSuit_18 : decode cX3_tanksThatSuit 18 = .ok (.aaload, 1) := by decide +kernel
theorem dX3_tanksThatSuit_19 : decode cX3_tanksThatSuit 19 = .ok (.aload_n 1, 1) := by decide +kernel
theorem dX3_tanksThatSuit_20 : decode cX3_tanksThatSuit 20 = .ok (.invokevirtual 141, 3) := by decide +kernel
theorem dX3_tanksThatSuit_23 : decode cX3_tanksThatSuit 23 = .ok (.ifCond .ne 9, 3) := by decide +kernel
theorem dX3_tanksThatSuit_26 : decode cX3_tanksThatSuit 26 = .ok (.iload_n 2, 1) := by decide +kernel
theorem dX3_tanksThatSuit_27 : decode cX3_tanksThatSuit 27 = .ok (.iconst 1, 1) := by decide +kernel
theorem dX3_tanksThatSuit_28 : decode cX3_tanksThatSuit 28 = .ok (.iload_n 3, 1) := by decide +kernel
theorem dX3_tanksThatSuit_29 : decode cX3_tanksThatSuit 29 = .ok (.ishl, 1) := by decide +kernel
theorem dX3_tanksThatSuit_30 : decode cX3_tanksThatSuit 30 = .ok (.ior, 1) := by decide +kernel
theorem dX3_tanksThatSuit_31 : decode cX3_tanksThatSuit 31 = .ok (.istore_n 2, 1) := by decide +kernel
theorem dX3_tanksThatSuit_32 : decode cX3_tanksThatSuit 32 = .ok (.iinc 3 1, 3) := by decide +kernel
theorem dX3_tanksThatSuit_35 : decode cX3_tanksThatSuit 35 = .ok (.goto (-31), 3) := by decide +kernel
theorem dX3_tanksThatSuit_38 : decode cX3_tanksThatSuit 38 = .ok (.iload_n 2, 1) := by decide +kernel
theorem dX3_tanksThatSuit_39 : decode cX3_tanksThatSuit 39 = .ok (.ireturn, 1) := by decide +kernel
theorem dX3_cargoesThatClash_0 : decode cX3_cargoesThatClash 0 = .ok (.iconst 0, 1) := by decide +kernel
theorem dX3_cargoesThatClash_1 : decode cX3_cargoesThatClash 1 = .ok (.istore_n 2, 1) := by decide +kernel
theorem dX3_cargoesThatClash_2 : decode cX3_cargoesThatClash 2 = .ok (.iconst 0, 1) := by decide +kernel
theorem dX3_cargoesThatClash_3 : decode cX3_cargoesThatClash 3 = .ok (.istore_n 3, 1) := by decide +kernel
theorem dX3_cargoesThatClash_4 : decode cX3_cargoesThatClash 4 = .ok (.iload_n 3, 1) := by decide +kernel
theorem dX3_cargoesThatClash_5 : decode cX3_cargoesThatClash 5 = .ok (.aload_n 0, 1) := by decide +kernel
theorem dX3_cargoesThatClash_6 : decode cX3_cargoesThatClash 6 = .ok (.getfield 45, 3) := by decide +kernel
theorem dX3_cargoesThatClash_9 : decode cX3_cargoesThatClash 9 = .ok (.if_icmp .ge 28, 3) := by decide +kernel
theorem dX3_cargoesThatClash_12 : decode cX3_cargoesThatClash 12 = .ok (.aload_n 1, 1) := by decide +kernel
theorem dX3_cargoesThatClash_13 : decode cX3_cargoesThatClash 13 = .ok (.aload_n 0, 1) := by decide +kernel
theorem dX3_cargoesThatClash_14 : decode cX3_cargoesThatClash 14 = .ok (.getfield 17, 3) := by decide +kernel
theorem dX3_cargoesThatClash_17 : decode cX3_cargoesThatClash 17 = .ok (.iload_n 3, 1) := by decide +kernel
theorem dX3_cargoesThatClash_18 : decode cX3_cargoesThatClash 18 = .ok (.aaload, 1) := by decide +kernel
theorem dX3_cargoesThatClash_19 : decode cX3_cargoesThatClash 19 = .ok (.invokestatic 220, 3) := by decide +kernel
theorem dX3_cargoesThatClash_22 : decode cX3_cargoesThatClash 22 = .ok (.ifCond .eq 9, 3) := by decide +kernel
theorem dX3_cargoesThatClash_25 : decode cX3_cargoesThatClash 25 = .ok (.iload_n 2, 1) := by decide +kernel
theorem dX3_cargoesThatClash_26 : decode cX3_cargoesThatClash 26 = .ok (.iconst 1, 1) := by decide +kernel
theorem dX3_cargoesThatClash_27 : decode cX3_cargoesThatClash 27 = .ok (.iload_n 3, 1) := by decide +kernel
theorem dX3_cargoesThatClash_28 : decode cX3_cargoesThatClash 28 = .ok (.ishl, 1) := by decide +kernel
theorem dX3_cargoesThatClash_29 : decode cX3_cargoesThatClash 29 = .ok (.ior, 1) := by decide +kernel
theorem dX3_cargoesThatClash_30 : decode cX3_cargoesThatClash 30 = .ok (.istore_n 2, 1) := by decide +kernel
theorem dX3_cargoesThatClash_31 : decode cX3_cargoesThatClash 31 = .ok (.iinc 3 1, 3) := by decide +kernel
theorem dX3_cargoesThatClash_34 : decode cX3_cargoesThatClash 34 = .ok (.goto (-30), 3) := by decide +kernel
theorem dX3_cargoesThatClash_37 : decode cX3_cargoesThatClash 37 = .ok (.iload_n 2, 1) := by decide +kernel
theorem dX3_cargoesThatClash_38 : decode cX3_cargoesThatClash 38 = .ok (.ireturn, 1) := by decide +kernel
theorem dX3_tanksThatHold_0 : decode cX3_tanksThatHold 0 = .ok (.iconst 0, 1) := by decide +kernel
theorem dX3_tanksThatHold_1 : decode cX3_tanksThatHold 1 = .ok (.istore_n 2, 1) := by decide +kernel
theorem dX3_tanksThatHold_2 : decode cX3_tanksThatHold 2 = .ok (.iconst 0, 1) := by decide +kernel
theorem dX3_tanksThatHold_3 : decode cX3_tanksThatHold 3 = .ok (.istore_n 3, 1) := by decide +kernel
theorem dX3_tanksThatHold_4 : decode cX3_tanksThatHold 4 = .ok (.iload_n 3, 1) := by decide +kernel
theorem dX3_tanksThatHold_5 : decode cX3_tanksThatHold 5 = .ok (.aload_n 0, 1) := by decide +kernel
theorem dX3_tanksThatHold_6 : decode cX3_tanksThatHold 6 = .ok (.getfield 41, 3) := by decide +kernel
theorem dX3_tanksThatHold_9 : decode cX3_tanksThatHold 9 = .ok (.if_icmp .ge 25, 3) := by decide +kernel
theorem dX3_tanksThatHold_12 : decode cX3_tanksThatHold 12 = .ok (.aload_n 0, 1) := by decide +kernel
theorem dX3_tanksThatHold_13 : decode cX3_tanksThatHold 13 = .ok (.getfield 11, 3) := by decide +kernel
theorem dX3_tanksThatHold_16 : decode cX3_tanksThatHold 16 = .ok (.iload_n 3, 1) := by decide +kernel
theorem dX3_tanksThatHold_17 : decode cX3_tanksThatHold 17 = .ok (.aaload, 1) := by decide +kernel
theorem dX3_tanksThatHold_18 : decode cX3_tanksThatHold 18 = .ok (.getfield 124, 3) := by decide +kernel
theorem dX3_tanksThatHold_21 : decode cX3_tanksThatHold 21 = .ok (.iload_n 1, 1) := by decide +kernel
theorem dX3_tanksThatHold_22 : decode cX3_tanksThatHold 22 = .ok (.if_icmp .ne 6, 3) := by decide +kernel
theorem dX3_tanksThatHold_25 : decode cX3_tanksThatHold 25 = .ok (.iinc 2 1, 3) := by decide +kernel
theorem dX3_tanksThatHold_28 : decode cX3_tanksThatHold 28 = .ok (.iinc 3 1, 3) := by decide +kernel
theorem dX3_tanksThatHold_31 : decode cX3_tanksThatHold 31 = .ok (.goto (-27), 3) := by decide +kernel
theorem dX3_tanksThatHold_34 : decode cX3_tanksThatHold 34 = .ok (.iload_n 2, 1) := by decide +kernel
theorem dX3_tanksThatHold_35 : decode cX3_tanksThatHold 35 = .ok (.ireturn, 1) := by decide +kernel
theorem dX3_tanksInUse_0 : decode cX3_tanksInUse 0 = .ok (.aload_n 0, 1) := by decide +kernel
theorem dX3_tanksInUse_1 : decode cX3_tanksInUse 1 = .ok (.getfield 41, 3) := by decide +kernel
theorem dX3_tanksInUse_4 : decode cX3_tanksInUse 4 = .ok (.aload_n 0, 1) := by decide +kernel
theorem dX3_tanksInUse_5 : decode cX3_tanksInUse 5 = .ok (.bipush (-9), 2) := by decide +kernel
theorem dX3_tanksInUse_7 : decode cX3_tanksInUse 7 = .ok (.invokevirtual 117, 3) := by decide +kernel
theorem dX3_tanksInUse_10 : decode cX3_tanksInUse 10 = .ok (.isub, 1) := by decide +kernel
theorem dX3_tanksInUse_11 : decode cX3_tanksInUse 11 = .ok (.ireturn, 1) := by decide +kernel
theorem dX3_heldList_0 : decode cX3_heldList 0 = .ok (.iconst 0, 1) := by decide +kernel
theorem dX3_heldList_1 : decode cX3_heldList 1 = .ok (.istore_n 1, 1) := by decide +kernel
theorem dX3_heldList_2 : decode cX3_heldList 2 = .ok (.iconst 0, 1) := by decide +kernel
theorem dX3_heldList_3 : decode cX3_heldList 3 = .ok (.istore_n 2, 1) := by decide +kernel
theorem dX3_heldList_4 : decode cX3_heldList 4 = .ok (.iload_n 2, 1) := by decide +kernel
theorem dX3_heldList_5 : decode cX3_heldList 5 = .ok (.aload_n 0, 1) := by decide +kernel
theorem dX3_heldList_6 : decode cX3_heldList 6 = .ok (.getfield 41, 3) := by decide +kernel
theorem dX3_heldList_9 : decode cX3_heldList 9 = .ok (.if_icmp .ge 31, 3) := by decide +kernel
theorem dX3_heldList_12 : decode cX3_heldList 12 = .ok (.iload_n 1, 1) := by decide +kernel
theorem dX3_heldList_13 : decode cX3_heldList 13 = .ok (.aload_n 0, 1) := by decide +kernel
theorem dX3_heldList_14 : decode cX3_heldList 14 = .ok (.getfield 11, 3) := by decide +kernel
theorem dX3_heldList_17 : decode cX3_heldList 17 = .ok (.iload_n 2, 1) := by decide +kernel
theorem dX3_heldList_18 : decode cX3_heldList 18 = .ok (.aaload, 1) := by decide +kernel
theorem dX3_heldList_19 : decode cX3_heldList 19 = .ok (.getfield 127, 3) := by decide +kernel
theorem dX3_heldList_22 : decode cX3_heldList 22 = .ok (.aload_n 0, 1) := by decide +kernel
theorem dX3_heldList_23 : decode cX3_heldList 23 = .ok (.getfield 11, 3) := by decide +kernel
theorem dX3_heldList_26 : decode cX3_heldList 26 = .ok (.iload_n 2, 1) := by decide +kernel
theorem dX3_heldList_27 : decode cX3_heldList 27 = .ok (.aaload, 1) := by decide +kernel
theorem dX3_heldList_28 : decode cX3_heldList 28 = .ok (.getfield 70, 3) := by decide +kernel
theorem dX3_heldList_31 : decode cX3_heldList 31 = .ok (.imul, 1) := by decide +kernel
theorem dX3_heldList_32 : decode cX3_heldList 32 = .ok (.iadd, 1) := by decide +kernel
theorem dX3_heldList_33 : decode cX3_heldList 33 = .ok (.istore_n 1, 1) := by decide +kernel
theorem dX3_heldList_34 : decode cX3_heldList 34 = .ok (.iinc 2 1, 3) := by decide +kernel
theorem dX3_heldList_37 : decode cX3_heldList 37 = .ok (.goto (-33), 3) := by decide +kernel
theorem dX3_heldList_40 : decode cX3_heldList 40 = .ok (.iload_n 1, 1) := by decide +kernel
theorem dX3_heldList_41 : decode cX3_heldList 41 = .ok (.ireturn, 1) := by decide +kernel
theorem dX3_mayComeInto_0 : decode cX3_mayComeInto 0 = .ok (.aload_n 1, 1) := by decide +kernel
theorem dX3_mayComeInto_1 : decode cX3_mayComeInto 1 = .ok (.getfield 124, 3) := by decide +kernel
theorem dX3_mayComeInto_4 : decode cX3_mayComeInto 4 = .ok (.bipush (-9), 2) := by decide +kernel
theorem dX3_mayComeInto_6 : decode cX3_mayComeInto 6 = .ok (.if_icmp .ne 12, 3) := by decide +kernel
theorem dX3_mayComeInto_9 : decode cX3_mayComeInto 9 = .ok (.aload_n 0, 1) := by decide +kernel
theorem dX3_mayComeInto_10 : decode cX3_mayComeInto 10 = .ok (.aload_n 1, 1) := by decide +kernel
theorem dX3_mayComeInto_11 : decode cX3_mayComeInto 11 = .ok (.aload_n 2, 1) := by decide +kernel
theorem dX3_mayComeInto_12 : decode cX3_mayComeInto 12 = .ok (.invokevirtual 141, 3) := by decide +kernel
theorem dX3_mayComeInto_15 : decode cX3_mayComeInto 15 = .ok (.ifCond .eq 5, 3) := by decide +kernel
theorem dX3_mayComeInto_18 : decode cX3_mayComeInto 18 = .ok (.iconst 0, 1) := by decide +kernel
theorem dX3_mayComeInto_19 : decode cX3_mayComeInto 19 = .ok (.ireturn, 1) := by decide +kernel
theorem dX3_mayComeInto_20 : decode cX3_mayComeInto 20 = .ok (.iconst 0, 1) := by decide +kernel
theorem dX3_mayComeInto_21 : decode cX3_mayComeInto 21 = .ok (.istore_n 3, 1) := by decide +kernel
theorem dX3_mayComeInto_22 : decode cX3_mayComeInto 22 = .ok (.iload_n 3, 1) := by decide +kernel
theorem dX3_mayComeInto_23 : decode cX3_mayComeInto 23 = .ok (.aload_n 0, 1) := by decide +kernel
theorem dX3_mayComeInto_24 : decode cX3_mayComeInto 24 = .ok (.getfield 41, 3) := by decide +kernel
theorem dX3_mayComeInto_27 : decode cX3_mayComeInto 27 = .ok (.if_icmp .ge 56, 3) := by decide +kernel
theorem dX3_mayComeInto_30 : decode cX3_mayComeInto 30 = .ok (.aload_n 0, 1) := by decide +kernel
theorem dX3_mayComeInto_31 : decode cX3_mayComeInto 31 = .ok (.getfield 11, 3) := by decide +kernel
theorem dX3_mayComeInto_34 : decode cX3_mayComeInto 34 = .ok (.iload_n 3, 1) := by decide +kernel
theorem dX3_mayComeInto_35 : decode cX3_mayComeInto 35 = .ok (.aaload, 1) := by decide +kernel
theorem dX3_mayComeInto_36 : decode cX3_mayComeInto 36 = .ok (.getfield 124, 3) := by decide +kernel
theorem dX3_mayComeInto_39 : decode cX3_mayComeInto 39 = .ok (.istore 4, 2) := by decide +kernel
theorem dX3_mayComeInto_41 : decode cX3_mayComeInto 41 = .ok (.aload_n 1, 1) := by decide +kernel
theorem dX3_mayComeInto_42 : decode cX3_mayComeInto 42 = .ok (.getfield 77, 3) := by decide +kernel
theorem dX3_mayComeInto_45 : decode cX3_mayComeInto 45 = .ok (.iload_n 3, 1) := by decide +kernel
theorem dX3_mayComeInto_46 : decode cX3_mayComeInto 46 = .ok (.invokestatic 80, 3) := by decide +kernel
theorem dX3_mayComeInto_49 : decode cX3_mayComeInto 49 = .ok (.ifCond .eq 28, 3) := by decide +kernel
theorem dX3_mayComeInto_52 : decode cX3_mayComeInto 52 = .ok (.aload_n 0, 1) := by decide +kernel
theorem dX3_mayComeInto_53 : decode cX3_mayComeInto 53 = .ok (.iload 4, 2) := by decide +kernel
theorem dX3_mayComeInto_55 : decode cX3_mayComeInto 55 = .ok (.invokevirtual 121, 3) := by decide +kernel
theorem dX3_mayComeInto_58 : decode cX3_mayComeInto 58 = .ok (.ifCond .eq 19, 3) := by decide +kernel
theorem dX3_mayComeInto_61 : decode cX3_mayComeInto 61 = .ok (.aload_n 2, 1) := by decide +kernel
theorem dX3_mayComeInto_62 : decode cX3_mayComeInto 62 = .ok (.aload_n 0, 1) := by decide +kernel
theorem dX3_mayComeInto_63 : decode cX3_mayComeInto 63 = .ok (.getfield 17, 3) := by decide +kernel
theorem dX3_mayComeInto_66 : decode cX3_mayComeInto 66 = .ok (.iload 4, 2) := by decide +kernel
theorem dX3_mayComeInto_68 : decode cX3_mayComeInto 68 = .ok (.aaload, 1) := by decide +kernel
theorem dX3_mayComeInto_69 : decode cX3_mayComeInto 69 = .ok (.invokestatic 220, 3) := by decide +kernel
theorem dX3_mayComeInto_72 : decode cX3_mayComeInto 72 = .ok (.ifCond .eq 5, 3) := by decide +kernel
theorem dX3_mayComeInto_75 : decode cX3_mayComeInto 75 = .ok (.iconst 0, 1) := by decide +kernel
theorem dX3_mayComeInto_76 : decode cX3_mayComeInto 76 = .ok (.ireturn, 1) := by decide +kernel
theorem dX3_mayComeInto_77 : decode cX3_mayComeInto 77 = .ok (.iinc 3 1, 3) := by decide +kernel
theorem dX3_mayComeInto_80 : decode cX3_mayComeInto 80 = .ok (.goto (-58), 3) := by decide +kernel
theorem dX3_mayComeInto_83 : decode cX3_mayComeInto 83 = .ok (.iconst 1, 1) := by decide +kernel
theorem dX3_mayComeInto_84 : decode cX3_mayComeInto 84 = .ok (.ireturn, 1) := by decide +kernel
theorem dX3_toldGoesBeyond_0 : decode cX3_toldGoesBeyond 0 = .ok (.iconst 0, 1) := by decide +kernel
theorem dX3_toldGoesBeyond_1 : decode cX3_toldGoesBeyond 1 = .ok (.istore_n 2, 1) := by decide +kernel
theorem dX3_toldGoesBeyond_2 : decode cX3_toldGoesBeyond 2 = .ok (.iload_n 2, 1) := by decide +kernel
theorem dX3_toldGoesBeyond_3 : decode cX3_toldGoesBeyond 3 = .ok (.aload_n 0, 1) := by decide +kernel
theorem dX3_toldGoesBeyond_4 : decode cX3_toldGoesBeyond 4 = .ok (.getfield 41, 3) := by decide +kernel
theorem dX3_toldGoesBeyond_7 : decode cX3_toldGoesBeyond 7 = .ok (.if_icmp .ge 35, 3) := by decide +kernel
theorem dX3_toldGoesBeyond_10 : decode cX3_toldGoesBeyond 10 = .ok (.aload_n 0, 1) := by decide +kernel
theorem dX3_toldGoesBeyond_11 : decode cX3_toldGoesBeyond 11 = .ok (.getfield 32, 3) := by decide +kernel
theorem dX3_toldGoesBeyond_14 : decode cX3_toldGoesBeyond 14 = .ok (.iload_n 2, 1) := by decide +kernel
theorem dX3_toldGoesBeyond_15 : decode cX3_toldGoesBeyond 15 = .ok (.iaload, 1) := by decide +kernel
theorem dX3_toldGoesBeyond_16 : decode cX3_toldGoesBeyond 16 = .ok (.bipush (-9), 2) := by decide +kernel
theorem dX3_toldGoesBeyond_18 : decode cX3_toldGoesBeyond 18 = .ok (.if_icmp .eq 18, 3) := by decide +kernel
theorem dX3_toldGoesBeyond_21 : decode cX3_toldGoesBeyond 21 = .ok (.iload_n 1, 1) := by decide +kernel
theorem dX3_toldGoesBeyond_22 : decode cX3_toldGoesBeyond 22 = .ok (.aload_n 0, 1) := by decide +kernel
theorem dX3_toldGoesBeyond_23 : decode cX3_toldGoesBeyond 23 = .ok (.getfield 32, 3) := by decide +kernel
theorem dX3_toldGoesBeyond_26 : decode cX3_toldGoesBeyond 26 = .ok (.iload_n 2, 1) := by decide +kernel
theorem dX3_toldGoesBeyond_27 : decode cX3_toldGoesBeyond 27 = .ok (.iaload, 1) := by decide +kernel
theorem dX3_toldGoesBeyond_28 : decode cX3_toldGoesBeyond 28 = .ok (.invokestatic 80, 3) := by decide +kernel
theorem dX3_toldGoesBeyond_31 : decode cX3_toldGoesBeyond 31 = .ok (.ifCond .ne 5, 3) := by decide +kernel
theorem dX3_toldGoesBeyond_34 : decode cX3_toldGoesBeyond 34 = .ok (.iconst 1, 1) := by decide +kernel
theorem dX3_toldGoesBeyond_35 : decode cX3_toldGoesBeyond 35 = .ok (.ireturn, 1) := by decide +kernel
theorem dX3_toldGoesBeyond_36 : decode cX3_toldGoesBeyond 36 = .ok (.iinc 2 1, 3) := by decide +kernel
theorem dX3_toldGoesBeyond_39 : decode cX3_toldGoesBeyond 39 = .ok (.goto (-37), 3) := by decide +kernel
theorem dX3_toldGoesBeyond_42 : decode cX3_toldGoesBeyond 42 = .ok (.iconst 0, 1) := by decide +kernel
theorem dX3_toldGoesBeyond_43 : decode cX3_toldGoesBeyond 43 = .ok (.ireturn, 1) := by decide +kernel
theorem dX3_toldDoesNotSuit_0 : decode cX3_toldDoesNotSuit 0 = .ok (.iconst 0, 1) := by decide +kernel
theorem dX3_toldDoesNotSuit_1 : decode cX3_toldDoesNotSuit 1 = .ok (.istore_n 1, 1) := by decide +kernel
theorem dX3_toldDoesNotSuit_2 : decode cX3_toldDoesNotSuit 2 = .ok (.iload_n 1, 1) := by decide +kernel
theorem dX3_toldDoesNotSuit_3 : decode cX3_toldDoesNotSuit 3 = .ok (.aload_n 0, 1) := by decide +kernel
theorem dX3_toldDoesNotSuit_4 : decode cX3_toldDoesNotSuit 4 = .ok (.getfield 41, 3) := by decide +kernel
theorem dX3_toldDoesNotSuit_7 : decode cX3_toldDoesNotSuit 7 = .ok (.if_icmp .ge 45, 3) := by decide +kernel
theorem dX3_toldDoesNotSuit_10 : decode cX3_toldDoesNotSuit 10 = .ok (.aload_n 0, 1) := by decide +kernel
theorem dX3_toldDoesNotSuit_11 : decode cX3_toldDoesNotSuit 11 = .ok (.getfield 32, 3) := by decide +kernel
theorem dX3_toldDoesNotSuit_14 : decode cX3_toldDoesNotSuit 14 = .ok (.iload_n 1, 1) := by decide +kernel
theorem dX3_toldDoesNotSuit_15 : decode cX3_toldDoesNotSuit 15 = .ok (.iaload, 1) := by decide +kernel
theorem dX3_toldDoesNotSuit_16 : decode cX3_toldDoesNotSuit 16 = .ok (.istore_n 2, 1) := by decide +kernel
theorem dX3_toldDoesNotSuit_17 : decode cX3_toldDoesNotSuit 17 = .ok (.aload_n 0, 1) := by decide +kernel
theorem dX3_toldDoesNotSuit_18 : decode cX3_toldDoesNotSuit 18 = .ok (.iload_n 2, 1) := by decide +kernel
theorem dX3_toldDoesNotSuit_19 : decode cX3_toldDoesNotSuit 19 = .ok (.invokevirtual 121, 3) := by decide +kernel
theorem dX3_toldDoesNotSuit_22 : decode cX3_toldDoesNotSuit 22 = .ok (.ifCond .eq 24, 3) := by decide +kernel
theorem dX3_toldDoesNotSuit_25 : decode cX3_toldDoesNotSuit 25 = .ok (.aload_n 0, 1) := by decide +kernel
theorem dX3_toldDoesNotSuit_26 : decode cX3_toldDoesNotSuit 26 = .ok (.aload_n 0, 1) := by decide +kernel
theorem dX3_toldDoesNotSuit_27 : decode cX3_toldDoesNotSuit 27 = .ok (.getfield 11, 3) := by decide +kernel
theorem dX3_toldDoesNotSuit_30 : decode cX3_toldDoesNotSuit 30 = .ok (.iload_n 1, 1) := by decide +kernel
theorem dX3_toldDoesNotSuit_31 : decode cX3_toldDoesNotSuit 31 = .ok (.aaload, 1) := by decide +kernel
theorem dX3_toldDoesNotSuit_32 : decode cX3_toldDoesNotSuit 32 = .ok (.aload_n 0, 1) := by decide +kernel
theorem dX3_toldDoesNotSuit_33 : decode cX3_toldDoesNotSuit 33 = .ok (.getfield 17, 3) := by decide +kernel
theorem dX3_toldDoesNotSuit_36 : decode cX3_toldDoesNotSuit 36 = .ok (.iload_n 2, 1) := by decide +kernel
theorem dX3_toldDoesNotSuit_37 : decode cX3_toldDoesNotSuit 37 = .ok (.aaload, 1) := by decide +kernel
theorem dX3_toldDoesNotSuit_38 : decode cX3_toldDoesNotSuit 38 = .ok (.invokevirtual 141, 3) := by decide +kernel
theorem dX3_toldDoesNotSuit_41 : decode cX3_toldDoesNotSuit 41 = .ok (.ifCond .eq 5, 3) := by decide +kernel
theorem dX3_toldDoesNotSuit_44 : decode cX3_toldDoesNotSuit 44 = .ok (.iconst 1, 1) := by decide +kernel
theorem dX3_toldDoesNotSuit_45 : decode cX3_toldDoesNotSuit 45 = .ok (.ireturn, 1) := by decide +kernel
theorem dX3_toldDoesNotSuit_46 : decode cX3_toldDoesNotSuit 46 = .ok (.iinc 1 1, 3) := by decide +kernel
theorem dX3_toldDoesNotSuit_49 : decode cX3_toldDoesNotSuit 49 = .ok (.goto (-47), 3) := by decide +kernel
theorem dX3_toldDoesNotSuit_52 : decode cX3_toldDoesNotSuit 52 = .ok (.iconst 0, 1) := by decide +kernel
theorem dX3_toldDoesNotSuit_53 : decode cX3_toldDoesNotSuit 53 = .ok (.ireturn, 1) := by decide +kernel
theorem dX3_toldClashes_0 : decode cX3_toldClashes 0 = .ok (.iconst 0, 1) := by decide +kernel
theorem dX3_toldClashes_1 : decode cX3_toldClashes 1 = .ok (.istore_n 1, 1) := by decide +kernel
theorem dX3_toldClashes_2 : decode cX3_toldClashes 2 = .ok (.iload_n 1, 1) := by decide +kernel
theorem dX3_toldClashes_3 : decode cX3_toldClashes 3 = .ok (.aload_n 0, 1) := by decide +kernel
theorem dX3_toldClashes_4 : decode cX3_toldClashes 4 = .ok (.getfield 41, 3) := by decide +kernel
theorem dX3_toldClashes_7 : decode cX3_toldClashes 7 = .ok (.if_icmp .ge 91, 3) := by decide +kernel
theorem dX3_toldClashes_10 : decode cX3_toldClashes 10 = .ok (.iconst 0, 1) := by decide +kernel
theorem dX3_toldClashes_11 : decode cX3_toldClashes 11 = .ok (.istore_n 2, 1) := by decide +kernel
theorem dX3_toldClashes_12 : decode cX3_toldClashes 12 = .ok (.iload_n 2, 1) := by decide +kernel
theorem dX3_toldClashes_13 : decode cX3_toldClashes 13 = .ok (.iload_n 1, 1) := by decide +kernel
theorem dX3_toldClashes_14 : decode cX3_toldClashes 14 = .ok (.if_icmp .ge 78, 3) := by decide +kernel
theorem dX3_toldClashes_17 : decode cX3_toldClashes 17 = .ok (.aload_n 0, 1) := by decide +kernel
theorem dX3_toldClashes_18 : decode cX3_toldClashes 18 = .ok (.getfield 32, 3) := by decide +kernel
theorem dX3_toldClashes_21 : decode cX3_toldClashes 21 = .ok (.iload_n 1, 1) := by decide +kernel
theorem dX3_toldClashes_22 : decode cX3_toldClashes 22 = .ok (.iaload, 1) := by decide +kernel
theorem dX3_toldClashes_23 : decode cX3_toldClashes 23 = .ok (.istore_n 3, 1) := by decide +kernel
theorem dX3_toldClashes_24 : decode cX3_toldClashes 24 = .ok (.aload_n 0, 1) := by decide +kernel
theorem dX3_toldClashes_25 : decode cX3_toldClashes 25 = .ok (.getfield 32, 3) := by decide +kernel
theorem dX3_toldClashes_28 : decode cX3_toldClashes 28 = .ok (.iload_n 2, 1) := by decide +kernel
theorem dX3_toldClashes_29 : decode cX3_toldClashes 29 = .ok (.iaload, 1) := by decide +kernel
theorem dX3_toldClashes_30 : decode cX3_toldClashes 30 = .ok (.istore 4, 2) := by decide +kernel
theorem dX3_toldClashes_32 : decode cX3_toldClashes 32 = .ok (.aload_n 0, 1) := by decide +kernel
theorem dX3_toldClashes_33 : decode cX3_toldClashes 33 = .ok (.getfield 11, 3) := by decide +kernel
theorem dX3_toldClashes_36 : decode cX3_toldClashes 36 = .ok (.iload_n 1, 1) := by decide +kernel
theorem dX3_toldClashes_37 : decode cX3_toldClashes 37 = .ok (.aaload, 1) := by decide +kernel
theorem dX3_toldClashes_38 : decode cX3_toldClashes 38 = .ok (.getfield 77, 3) := by decide +kernel
theorem dX3_toldClashes_41 : decode cX3_toldClashes 41 = .ok (.iload_n 2, 1) := by decide +kernel
theorem dX3_toldClashes_42 : decode cX3_toldClashes 42 = .ok (.invokestatic 80, 3) := by decide +kernel
theorem dX3_toldClashes_45 : decode cX3_toldClashes 45 = .ok (.ifCond .eq 41, 3) := by decide +kernel
theorem dX3_toldClashes_48 : decode cX3_toldClashes 48 = .ok (.aload_n 0, 1) := by decide +kernel
theorem dX3_toldClashes_49 : decode cX3_toldClashes 49 = .ok (.iload_n 3, 1) := by decide +kernel
theorem dX3_toldClashes_50 : decode cX3_toldClashes 50 = .ok (.invokevirtual 121, 3) := by decide +kernel
theorem dX3_toldClashes_53 : decode cX3_toldClashes 53 = .ok (.ifCond .eq 33, 3) := by decide +kernel
theorem dX3_toldClashes_56 : decode cX3_toldClashes 56 = .ok (.aload_n 0, 1) := by decide +kernel
theorem dX3_toldClashes_57 : decode cX3_toldClashes 57 = .ok (.iload 4, 2) := by decide +kernel
theorem dX3_toldClashes_59 : decode cX3_toldClashes 59 = .ok (.invokevirtual 121, 3) := by decide +kernel
theorem dX3_toldClashes_62 : decode cX3_toldClashes 62 = .ok (.ifCond .eq 24, 3) := by decide +kernel
theorem dX3_toldClashes_65 : decode cX3_toldClashes 65 = .ok (.aload_n 0, 1) := by decide +kernel
theorem dX3_toldClashes_66 : decode cX3_toldClashes 66 = .ok (.getfield 17, 3) := by decide +kernel
theorem dX3_toldClashes_69 : decode cX3_toldClashes 69 = .ok (.iload_n 3, 1) := by decide +kernel
theorem dX3_toldClashes_70 : decode cX3_toldClashes 70 = .ok (.aaload, 1) := by decide +kernel
theorem dX3_toldClashes_71 : decode cX3_toldClashes 71 = .ok (.aload_n 0, 1) := by decide +kernel
theorem dX3_toldClashes_72 : decode cX3_toldClashes 72 = .ok (.getfield 17, 3) := by decide +kernel
theorem dX3_toldClashes_75 : decode cX3_toldClashes 75 = .ok (.iload 4, 2) := by decide +kernel
theorem dX3_toldClashes_77 : decode cX3_toldClashes 77 = .ok (.aaload, 1) := by decide +kernel
theorem dX3_toldClashes_78 : decode cX3_toldClashes 78 = .ok (.invokestatic 220, 3) := by decide +kernel
theorem dX3_toldClashes_81 : decode cX3_toldClashes 81 = .ok (.ifCond .eq 5, 3) := by decide +kernel
theorem dX3_toldClashes_84 : decode cX3_toldClashes 84 = .ok (.iconst 1, 1) := by decide +kernel
theorem dX3_toldClashes_85 : decode cX3_toldClashes 85 = .ok (.ireturn, 1) := by decide +kernel
theorem dX3_toldClashes_86 : decode cX3_toldClashes 86 = .ok (.iinc 2 1, 3) := by decide +kernel
theorem dX3_toldClashes_89 : decode cX3_toldClashes 89 = .ok (.goto (-77), 3) := by decide +kernel
theorem dX3_toldClashes_92 : decode cX3_toldClashes 92 = .ok (.iinc 1 1, 3) := by decide +kernel
theorem dX3_toldClashes_95 : decode cX3_toldClashes 95 = .ok (.goto (-93), 3) := by decide +kernel
theorem dX3_toldClashes_98 : decode cX3_toldClashes 98 = .ok (.iconst 0, 1) := by decide +kernel
theorem dX3_toldClashes_99 : decode cX3_toldClashes 99 = .ok (.ireturn, 1) := by decide +kernel
theorem dX3_stowTold_0 : decode cX3_stowTold 0 = .ok (.iconst 0, 1) := by decide +kernel
theorem dX3_stowTold_1 : decode cX3_stowTold 1 = .ok (.istore_n 1, 1) := by decide +kernel
theorem dX3_stowTold_2 : decode cX3_stowTold 2 = .ok (.iload_n 1, 1) := by decide +kernel
theorem dX3_stowTold_3 : decode cX3_stowTold 3 = .ok (.aload_n 0, 1) := by decide +kernel
theorem dX3_stowTold_4 : decode cX3_stowTold 4 = .ok (.getfield 45, 3) := by decide +kernel
theorem dX3_stowTold_7 : decode cX3_stowTold 7 = .ok (.if_icmp .ge 24, 3) := by decide +kernel
theorem dX3_stowTold_10 : decode cX3_stowTold 10 = .ok (.aload_n 0, 1) := by decide +kernel
theorem dX3_stowTold_11 : decode cX3_stowTold 11 = .ok (.getfield 38, 3) := by decide +kernel
theorem dX3_stowTold_14 : decode cX3_stowTold 14 = .ok (.iload_n 1, 1) := by decide +kernel
theorem dX3_stowTold_15 : decode cX3_stowTold 15 = .ok (.aload_n 0, 1) := by decide +kernel
theorem dX3_stowTold_16 : decode cX3_stowTold 16 = .ok (.getfield 17, 3) := by decide +kernel
theorem dX3_stowTold_19 : decode cX3_stowTold 19 = .ok (.iload_n 1, 1) := by decide +kernel
theorem dX3_stowTold_20 : decode cX3_stowTold 20 = .ok (.aaload, 1) := by decide +kernel
theorem dX3_stowTold_21 : decode cX3_stowTold 21 = .ok (.getfield 102, 3) := by decide +kernel
theorem dX3_stowTold_24 : decode cX3_stowTold 24 = .ok (.iastore, 1) := by decide +kernel
theorem dX3_stowTold_25 : decode cX3_stowTold 25 = .ok (.iinc 1 1, 3) := by decide +kernel
theorem dX3_stowTold_28 : decode cX3_stowTold 28 = .ok (.goto (-26), 3) := by decide +kernel
theorem dX3_stowTold_31 : decode cX3_stowTold 31 = .ok (.iconst 0, 1) := by decide +kernel
theorem dX3_stowTold_32 : decode cX3_stowTold 32 = .ok (.istore_n 1, 1) := by decide +kernel
theorem dX3_stowTold_33 : decode cX3_stowTold 33 = .ok (.iload_n 1, 1) := by decide +kernel
theorem dX3_stowTold_34 : decode cX3_stowTold 34 = .ok (.aload_n 0, 1) := by decide +kernel
theorem dX3_stowTold_35 : decode cX3_stowTold 35 = .ok (.getfield 41, 3) := by decide +kernel
theorem dX3_stowTold_38 : decode cX3_stowTold 38 = .ok (.if_icmp .ge 70, 3) := by decide +kernel
theorem dX3_stowTold_41 : decode cX3_stowTold 41 = .ok (.aload_n 0, 1) := by decide +kernel
theorem dX3_stowTold_42 : decode cX3_stowTold 42 = .ok (.getfield 32, 3) := by decide +kernel
theorem dX3_stowTold_45 : decode cX3_stowTold 45 = .ok (.iload_n 1, 1) := by decide +kernel
theorem dX3_stowTold_46 : decode cX3_stowTold 46 = .ok (.iaload, 1) := by decide +kernel
theorem dX3_stowTold_47 : decode cX3_stowTold 47 = .ok (.istore_n 2, 1) := by decide +kernel
theorem dX3_stowTold_48 : decode cX3_stowTold 48 = .ok (.aload_n 0, 1) := by decide +kernel
theorem dX3_stowTold_49 : decode cX3_stowTold 49 = .ok (.getfield 35, 3) := by decide +kernel
theorem dX3_stowTold_52 : decode cX3_stowTold 52 = .ok (.iload_n 1, 1) := by decide +kernel
theorem dX3_stowTold_53 : decode cX3_stowTold 53 = .ok (.iconst 0, 1) := by decide +kernel
theorem dX3_stowTold_54 : decode cX3_stowTold 54 = .ok (.iastore, 1) := by decide +kernel
theorem dX3_stowTold_55 : decode cX3_stowTold 55 = .ok (.aload_n 0, 1) := by decide +kernel
theorem dX3_stowTold_56 : decode cX3_stowTold 56 = .ok (.iload_n 2, 1) := by decide +kernel
theorem dX3_stowTold_57 : decode cX3_stowTold 57 = .ok (.invokevirtual 121, 3) := by decide +kernel
theorem dX3_stowTold_60 : decode cX3_stowTold 60 = .ok (.ifCond .eq 42, 3) := by decide +kernel
theorem dX3_stowTold_63 : decode cX3_stowTold 63 = .ok (.aload_n 0, 1) := by decide +kernel
theorem dX3_stowTold_64 : decode cX3_stowTold 64 = .ok (.getfield 35, 3) := by decide +kernel
theorem dX3_stowTold_67 : decode cX3_stowTold 67 = .ok (.iload_n 1, 1) := by decide +kernel
theorem dX3_stowTold_68 : decode cX3_stowTold 68 = .ok (.aload_n 0, 1) := by decide +kernel
theorem dX3_stowTold_69 : decode cX3_stowTold 69 = .ok (.getfield 11, 3) := by decide +kernel
theorem dX3_stowTold_72 : decode cX3_stowTold 72 = .ok (.iload_n 1, 1) := by decide +kernel
theorem dX3_stowTold_73 : decode cX3_stowTold 73 = .ok (.aaload, 1) := by decide +kernel
theorem dX3_stowTold_74 : decode cX3_stowTold 74 = .ok (.getfield 64, 3) := by decide +kernel
theorem dX3_stowTold_77 : decode cX3_stowTold 77 = .ok (.aload_n 0, 1) := by decide +kernel
theorem dX3_stowTold_78 : decode cX3_stowTold 78 = .ok (.getfield 38, 3) := by decide +kernel
theorem dX3_stowTold_81 : decode cX3_stowTold 81 = .ok (.iload_n 2, 1) := by decide +kernel
theorem dX3_stowTold_82 : decode cX3_stowTold 82 = .ok (.iaload, 1) := by decide +kernel
theorem dX3_stowTold_83 : decode cX3_stowTold 83 = .ok (.invokestatic 224, 3) := by decide +kernel
theorem dX3_stowTold_86 : decode cX3_stowTold 86 = .ok (.iastore, 1) := by decide +kernel
theorem dX3_stowTold_87 : decode cX3_stowTold 87 = .ok (.aload_n 0, 1) := by decide +kernel
theorem dX3_stowTold_88 : decode cX3_stowTold 88 = .ok (.getfield 38, 3) := by decide +kernel
theorem dX3_stowTold_91 : decode cX3_stowTold 91 = .ok (.iload_n 2, 1) := by decide +kernel
theorem dX3_stowTold_92 : decode cX3_stowTold 92 = .ok (.dup2, 1) := by decide +kernel
theorem dX3_stowTold_93 : decode cX3_stowTold 93 = .ok (.iaload, 1) := by decide +kernel
theorem dX3_stowTold_94 : decode cX3_stowTold 94 = .ok (.aload_n 0, 1) := by decide +kernel
theorem dX3_stowTold_95 : decode cX3_stowTold 95 = .ok (.getfield 35, 3) := by decide +kernel
theorem dX3_stowTold_98 : decode cX3_stowTold 98 = .ok (.iload_n 1, 1) := by decide +kernel
theorem dX3_stowTold_99 : decode cX3_stowTold 99 = .ok (.iaload, 1) := by decide +kernel
theorem dX3_stowTold_100 : decode cX3_stowTold 100 = .ok (.isub, 1) := by decide +kernel
theorem dX3_stowTold_101 : decode cX3_stowTold 101 = .ok (.iastore, 1) := by decide +kernel
theorem dX3_stowTold_102 : decode cX3_stowTold 102 = .ok (.iinc 1 1, 3) := by decide +kernel
theorem dX3_stowTold_105 : decode cX3_stowTold 105 = .ok (.goto (-72), 3) := by decide +kernel
theorem dX3_stowTold_108 : decode cX3_stowTold 108 = .ok (.return_, 1) := by decide +kernel
theorem dX3_toldLeavesSomeOf_0 : decode cX3_toldLeavesSomeOf 0 = .ok (.iconst 0, 1) := by decide +kernel
theorem dX3_toldLeavesSomeOf_1 : decode cX3_toldLeavesSomeOf 1 = .ok (.istore_n 2, 1) := by decide +kernel
theorem dX3_toldLeavesSomeOf_2 : decode cX3_toldLeavesSomeOf 2 = .ok (.iload_n 2, 1) := by decide +kernel
theorem dX3_toldLeavesSomeOf_3 : decode cX3_toldLeavesSomeOf 3 = .ok (.aload_n 0, 1) := by decide +kernel
theorem dX3_toldLeavesSomeOf_4 : decode cX3_toldLeavesSomeOf 4 = .ok (.getfield 45, 3) := by decide +kernel
theorem dX3_toldLeavesSomeOf_7 : decode cX3_toldLeavesSomeOf 7 = .ok (.if_icmp .ge 28, 3) := by decide +kernel
theorem dX3_toldLeavesSomeOf_10 : decode cX3_toldLeavesSomeOf 10 = .ok (.iload_n 1, 1) := by decide +kernel
theorem dX3_toldLeavesSomeOf_11 : decode cX3_toldLeavesSomeOf 11 = .ok (.iload_n 2, 1) := by decide +kernel
theorem dX3_toldLeavesSomeOf_12 : decode cX3_toldLeavesSomeOf 12 = .ok (.invokestatic 80, 3) := by decide +kernel
theorem dX3_toldLeavesSomeOf_15 : decode cX3_toldLeavesSomeOf 15 = .ok (.ifCond .eq 14, 3) := by decide +kernel
theorem dX3_toldLeavesSomeOf_18 : decode cX3_toldLeavesSomeOf 18 = .ok (.aload_n 0, 1) := by decide +kernel
theorem dX3_toldLeavesSomeOf_19 : decode cX3_toldLeavesSomeOf 19 = .ok (.getfield 38, 3) := by decide +kernel
theorem dX3_toldLeavesSomeOf_22 : decode cX3_toldLeavesSomeOf 22 = .ok (.iload_n 2, 1) := by decide +kernel
theorem dX3_toldLeavesSomeOf_23 : decode cX3_toldLeavesSomeOf 23 = .ok (.iaload, 1) := by decide +kernel
theorem dX3_toldLeavesSomeOf_24 : decode cX3_toldLeavesSomeOf 24 = .ok (.ifCond .le 5, 3) := by decide +kernel
theorem dX3_toldLeavesSomeOf_27 : decode cX3_toldLeavesSomeOf 27 = .ok (.iconst 1, 1) := by decide +kernel
theorem dX3_toldLeavesSomeOf_28 : decode cX3_toldLeavesSomeOf 28 = .ok (.ireturn, 1) := by decide +kernel
theorem dX3_toldLeavesSomeOf_29 : decode cX3_toldLeavesSomeOf 29 = .ok (.iinc 2 1, 3) := by decide +kernel
theorem dX3_toldLeavesSomeOf_32 : decode cX3_toldLeavesSomeOf 32 = .ok (.goto (-30), 3) := by decide +kernel
theorem dX3_toldLeavesSomeOf_35 : decode cX3_toldLeavesSomeOf 35 = .ok (.iconst 0, 1) := by decide +kernel
theorem dX3_toldLeavesSomeOf_36 : decode cX3_toldLeavesSomeOf 36 = .ok (.ireturn, 1) := by decide +kernel
theorem dX3_toldLeavesTankEmpty_0 : decode cX3_toldLeavesTankEmpty 0 = .ok (.iconst 0, 1) := by decide +kernel
theorem dX3_toldLeavesTankEmpty_1 : decode cX3_toldLeavesTankEmpty 1 = .ok (.istore_n 1, 1) := by decide +kernel
theorem dX3_toldLeavesTankEmpty_2 : decode cX3_toldLeavesTankEmpty 2 = .ok (.iload_n 1, 1) := by decide +kernel
theorem dX3_toldLeavesTankEmpty_3 : decode cX3_toldLeavesTankEmpty 3 = .ok (.aload_n 0, 1) := by decide +kernel
theorem dX3_toldLeavesTankEmpty_4 : decode cX3_toldLeavesTankEmpty 4 = .ok (.getfield 41, 3) := by decide +kernel
theorem dX3_toldLeavesTankEmpty_7 : decode cX3_toldLeavesTankEmpty 7 = .ok (.if_icmp .ge 31, 3) := by decide +kernel
theorem dX3_toldLeavesTankEmpty_10 : decode cX3_toldLeavesTankEmpty 10 = .ok (.aload_n 0, 1) := by decide +kernel
theorem dX3_toldLeavesTankEmpty_11 : decode cX3_toldLeavesTankEmpty 11 = .ok (.getfield 32, 3) := by decide +kernel
theorem dX3_toldLeavesTankEmpty_14 : decode cX3_toldLeavesTankEmpty 14 = .ok (.iload_n 1, 1) := by decide +kernel
theorem dX3_toldLeavesTankEmpty_15 : decode cX3_toldLeavesTankEmpty 15 = .ok (.iaload, 1) := by decide +kernel
theorem dX3_toldLeavesTankEmpty_16 : decode cX3_toldLeavesTankEmpty 16 = .ok (.bipush (-9), 2) := by decide +kernel
theorem dX3_toldLeavesTankEmpty_18 : decode cX3_toldLeavesTankEmpty 18 = .ok (.if_icmp .eq 14, 3) := by decide +kernel
theorem dX3_toldLeavesTankEmpty_21 : decode cX3_toldLeavesTankEmpty 21 = .ok (.aload_n 0, 1) := by decide +kernel
theorem dX3_toldLeavesTankEmpty_22 : decode cX3_toldLeavesTankEmpty 22 = .ok (.getfield 35, 3) := by decide +kernel
theorem dX3_toldLeavesTankEmpty_25 : decode cX3_toldLeavesTankEmpty 25 = .ok (.iload_n 1, 1) := by decide +kernel
theorem dX3_toldLeavesTankEmpty_26 : decode cX3_toldLeavesTankEmpty 26 = .ok (.iaload, 1) := by decide +kernel
theorem dX3_toldLeavesTankEmpty_27 : decode cX3_toldLeavesTankEmpty 27 = .ok (.ifCond .ne 5, 3) := by decide +kernel
theorem dX3_toldLeavesTankEmpty_30 : decode cX3_toldLeavesTankEmpty 30 = .ok (.iconst 1, 1) := by decide +kernel
theorem dX3_toldLeavesTankEmpty_31 : decode cX3_toldLeavesTankEmpty 31 = .ok (.ireturn, 1) := by decide +kernel
theorem dX3_toldLeavesTankEmpty_32 : decode cX3_toldLeavesTankEmpty 32 = .ok (.iinc 1 1, 3) := by decide +kernel
theorem dX3_toldLeavesTankEmpty_35 : decode cX3_toldLeavesTankEmpty 35 = .ok (.goto (-33), 3) := by decide +kernel
theorem dX3_toldLeavesTankEmpty_38 : decode cX3_toldLeavesTankEmpty 38 = .ok (.iconst 0, 1) := by decide +kernel
theorem dX3_toldLeavesTankEmpty_39 : decode cX3_toldLeavesTankEmpty 39 = .ok (.ireturn, 1) := by decide +kernel
theorem dX3_toldList_0 : decode cX3_toldList 0 = .ok (.iconst 0, 1) := by decide +kernel
theorem dX3_toldList_1 : decode cX3_toldList 1 = .ok (.istore_n 1, 1) := by decide +kernel
theorem dX3_toldList_2 : decode cX3_toldList 2 = .ok (.iconst 0, 1) := by decide +kernel
theorem dX3_toldList_3 : decode cX3_toldList 3 = .ok (.istore_n 2, 1) := by decide +kernel
theorem dX3_toldList_4 : decode cX3_toldList 4 = .ok (.iload_n 2, 1) := by decide +kernel
theorem dX3_toldList_5 : decode cX3_toldList 5 = .ok (.aload_n 0, 1) := by decide +kernel
theorem dX3_toldList_6 : decode cX3_toldList 6 = .ok (.getfield 41, 3) := by decide +kernel
theorem dX3_toldList_9 : decode cX3_toldList 9 = .ok (.if_icmp .ge 28, 3) := by decide +kernel
theorem dX3_toldList_12 : decode cX3_toldList 12 = .ok (.iload_n 1, 1) := by decide +kernel
theorem dX3_toldList_13 : decode cX3_toldList 13 = .ok (.aload_n 0, 1) := by decide +kernel
theorem dX3_toldList_14 : decode cX3_toldList 14 = .ok (.getfield 35, 3) := by decide +kernel
theorem dX3_toldList_17 : decode cX3_toldList 17 = .ok (.iload_n 2, 1) := by decide +kernel
theorem dX3_toldList_18 : decode cX3_toldList 18 = .ok (.iaload, 1) := by decide +kernel
theorem dX3_toldList_19 : decode cX3_toldList 19 = .ok (.aload_n 0, 1) := by decide +kernel
theorem dX3_toldList_20 : decode cX3_toldList 20 = .ok (.getfield 11, 3) := by decide +kernel
theorem dX3_toldList_23 : decode cX3_toldList 23 = .ok (.iload_n 2, 1) := by decide +kernel
theorem dX3_toldList_24 : decode cX3_toldList 24 = .ok (.aaload, 1) := by decide +kernel
theorem dX3_toldList_25 : decode cX3_toldList 25 = .ok (.getfield 70, 3) := by decide +kernel
theorem dX3_toldList_28 : decode cX3_toldList 28 = .ok (.imul, 1) := by decide +kernel
theorem dX3_toldList_29 : decode cX3_toldList 29 = .ok (.iadd, 1) := by decide +kernel
theorem dX3_toldList_30 : decode cX3_toldList 30 = .ok (.istore_n 1, 1) := by decide +kernel
theorem dX3_toldList_31 : decode cX3_toldList 31 = .ok (.iinc 2 1, 3) := by decide +kernel
theorem dX3_toldList_34 : decode cX3_toldList 34 = .ok (.goto (-30), 3) := by decide +kernel
theorem dX3_toldList_37 : decode cX3_toldList 37 = .ok (.iload_n 1, 1) := by decide +kernel
theorem dX3_toldList_38 : decode cX3_toldList 38 = .ok (.ireturn, 1) := by decide +kernel
theorem dX3_toldCost_0 : decode cX3_toldCost 0 = .ok (.iconst 0, 1) := by decide +kernel
theorem dX3_toldCost_1 : decode cX3_toldCost 1 = .ok (.istore_n 1, 1) := by decide +kernel
theorem dX3_toldCost_2 : decode cX3_toldCost 2 = .ok (.iconst 0, 1) := by decide +kernel
theorem dX3_toldCost_3 : decode cX3_toldCost 3 = .ok (.istore_n 2, 1) := by decide +kernel
theorem dX3_toldCost_4 : decode cX3_toldCost 4 = .ok (.iload_n 2, 1) := by decide +kernel
theorem dX3_toldCost_5 : decode cX3_toldCost 5 = .ok (.aload_n 0, 1) := by decide +kernel
theorem dX3_toldCost_6 : decode cX3_toldCost 6 = .ok (.getfield 41, 3) := by decide +kernel
theorem dX3_toldCost_9 : decode cX3_toldCost 9 = .ok (.if_icmp .ge 43, 3) := by decide +kernel
theorem dX3_toldCost_12 : decode cX3_toldCost 12 = .ok (.aload_n 0, 1) := by decide +kernel
theorem dX3_toldCost_13 : decode cX3_toldCost 13 = .ok (.getfield 32, 3) := by decide +kernel
theorem dX3_toldCost_16 : decode cX3_toldCost 16 = .ok (.iload_n 2, 1) := by decide +kernel
theorem dX3_toldCost_17 : decode cX3_toldCost 17 = .ok (.iaload, 1) := by decide +kernel
theorem dX3_toldCost_18 : decode cX3_toldCost 18 = .ok (.istore_n 3, 1) := by decide +kernel
theorem dX3_toldCost_19 : decode cX3_toldCost 19 = .ok (.aload_n 0, 1) := by decide +kernel
theorem dX3_toldCost_20 : decode cX3_toldCost 20 = .ok (.iload_n 3, 1) := by decide +kernel
theorem dX3_toldCost_21 : decode cX3_toldCost 21 = .ok (.invokevirtual 121, 3) := by decide +kernel
theorem dX3_toldCost_24 : decode cX3_toldCost 24 = .ok (.ifCond .eq 22, 3) := by decide +kernel
theorem dX3_toldCost_27 : decode cX3_toldCost 27 = .ok (.iload_n 1, 1) := by decide +kernel
theorem dX3_toldCost_28 : decode cX3_toldCost 28 = .ok (.aload_n 0, 1) := by decide +kernel
theorem dX3_toldCost_29 : decode cX3_toldCost 29 = .ok (.aload_n 0, 1) := by decide +kernel
theorem dX3_toldCost_30 : decode cX3_toldCost 30 = .ok (.getfield 11, 3) := by decide +kernel
theorem dX3_toldCost_33 : decode cX3_toldCost 33 = .ok (.iload_n 2, 1) := by decide +kernel
theorem dX3_toldCost_34 : decode cX3_toldCost 34 = .ok (.aaload, 1) := by decide +kernel
theorem dX3_toldCost_35 : decode cX3_toldCost 35 = .ok (.aload_n 0, 1) := by decide +kernel
theorem dX3_toldCost_36 : decode cX3_toldCost 36 = .ok (.getfield 17, 3) := by decide +kernel
theorem dX3_toldCost_39 : decode cX3_toldCost 39 = .ok (.iload_n 3, 1) := by decide +kernel
theorem dX3_toldCost_40 : decode cX3_toldCost 40 = .ok (.aaload, 1) := by decide +kernel
theorem dX3_toldCost_41 : decode cX3_toldCost 41 = .ok (.invokevirtual 137, 3) := by decide +kernel
theorem dX3_toldCost_44 : decode cX3_toldCost 44 = .ok (.iadd, 1) := by decide +kernel
theorem dX3_toldCost_45 : decode cX3_toldCost 45 = .ok (.istore_n 1, 1) := by decide +kernel
theorem dX3_toldCost_46 : decode cX3_toldCost 46 = .ok (.iinc 2 1, 3) := by decide +kernel
theorem dX3_toldCost_49 : decode cX3_toldCost 49 = .ok (.goto (-45), 3) := by decide +kernel
theorem dX3_toldCost_52 : decode cX3_toldCost 52 = .ok (.iload_n 1, 1) := by decide +kernel
theorem dX3_toldCost_53 : decode cX3_toldCost 53 = .ok (.ireturn, 1) := by decide +kernel
theorem dX3_toldTanks_0 : decode cX3_toldTanks 0 = .ok (.iconst 0, 1) := by decide +kernel
theorem dX3_toldTanks_1 : decode cX3_toldTanks 1 = .ok (.istore_n 1, 1) := by decide +kernel
theorem dX3_toldTanks_2 : decode cX3_toldTanks 2 = .ok (.iconst 0, 1) := by decide +kernel
theorem dX3_toldTanks_3 : decode cX3_toldTanks 3 = .ok (.istore_n 2, 1) := by decide +kernel
theorem dX3_toldTanks_4 : decode cX3_toldTanks 4 = .ok (.iload_n 2, 1) := by decide +kernel
theorem dX3_toldTanks_5 : decode cX3_toldTanks 5 = .ok (.aload_n 0, 1) := by decide +kernel
theorem dX3_toldTanks_6 : decode cX3_toldTanks 6 = .ok (.getfield 41, 3) := by decide +kernel
theorem dX3_toldTanks_9 : decode cX3_toldTanks 9 = .ok (.if_icmp .ge 23, 3) := by decide +kernel
theorem dX3_toldTanks_12 : decode cX3_toldTanks 12 = .ok (.aload_n 0, 1) := by decide +kernel
theorem dX3_toldTanks_13 : decode cX3_toldTanks 13 = .ok (.getfield 32, 3) := by decide +kernel
theorem dX3_toldTanks_16 : decode cX3_toldTanks 16 = .ok (.iload_n 2, 1) := by decide +kernel
theorem dX3_toldTanks_17 : decode cX3_toldTanks 17 = .ok (.iaload, 1) := by decide +kernel
theorem dX3_toldTanks_18 : decode cX3_toldTanks 18 = .ok (.bipush (-9), 2) := by decide +kernel
theorem dX3_toldTanks_20 : decode cX3_toldTanks 20 = .ok (.if_icmp .eq 6, 3) := by decide +kernel
theorem dX3_toldTanks_23 : decode cX3_toldTanks 23 = .ok (.iinc 1 1, 3) := by decide +kernel
theorem dX3_toldTanks_26 : decode cX3_toldTanks 26 = .ok (.iinc 2 1, 3) := by decide +kernel
theorem dX3_toldTanks_29 : decode cX3_toldTanks 29 = .ok (.goto (-25), 3) := by decide +kernel
theorem dX3_toldTanks_32 : decode cX3_toldTanks 32 = .ok (.iload_n 1, 1) := by decide +kernel
theorem dX3_toldTanks_33 : decode cX3_toldTanks 33 = .ok (.ireturn, 1) := by decide +kernel
theorem dX3_takenSet_0 : decode cX3_takenSet 0 = .ok (.aload_n 0, 1) := by decide +kernel
theorem dX3_takenSet_1 : decode cX3_takenSet 1 = .ok (.invokevirtual 182, 3) := by decide +kernel
theorem dX3_takenSet_4 : decode cX3_takenSet 4 = .ok (.iconst 0, 1) := by decide +kernel
theorem dX3_takenSet_5 : decode cX3_takenSet 5 = .ok (.istore_n 1, 1) := by decide +kernel
theorem dX3_takenSet_6 : decode cX3_takenSet 6 = .ok (.iconst 0, 1) := by decide +kernel
theorem dX3_takenSet_7 : decode cX3_takenSet 7 = .ok (.istore_n 2, 1) := by decide +kernel
theorem dX3_takenSet_8 : decode cX3_takenSet 8 = .ok (.iconst 1, 1) := by decide +kernel
theorem dX3_takenSet_9 : decode cX3_takenSet 9 = .ok (.aload_n 0, 1) := by decide +kernel
theorem dX3_takenSet_10 : decode cX3_takenSet 10 = .ok (.getfield 45, 3) := by decide +kernel
theorem dX3_takenSet_13 : decode cX3_takenSet 13 = .ok (.ishl, 1) := by decide +kernel
theorem dX3_takenSet_14 : decode cX3_takenSet 14 = .ok (.istore_n 3, 1) := by decide +kernel
theorem dX3_takenSet_15 : decode cX3_takenSet 15 = .ok (.iconst 1, 1) := by decide +kernel
theorem dX3_takenSet_16 : decode cX3_takenSet 16 = .ok (.istore 4, 2) := by decide +kernel
theorem dX3_takenSet_18 : decode cX3_takenSet 18 = .ok (.iload 4, 2) := by decide +kernel
theorem dX3_takenSet_20 : decode cX3_takenSet 20 = .ok (.iload_n 3, 1) := by decide +kernel
theorem dX3_takenSet_21 : decode cX3_takenSet 21 = .ok (.if_icmp .ge 72, 3) := by decide +kernel
theorem dX3_takenSet_24 : decode cX3_takenSet 24 = .ok (.aload_n 0, 1) := by decide +kernel
theorem dX3_takenSet_25 : decode cX3_takenSet 25 = .ok (.iload 4, 2) := by decide +kernel
theorem dX3_takenSet_27 : decode cX3_takenSet 27 = .ok (.invokevirtual 228, 3) := by decide +kernel
theorem dX3_takenSet_30 : decode cX3_takenSet 30 = .ok (.istore 5, 2) := by decide +kernel
theorem dX3_takenSet_32 : decode cX3_takenSet 32 = .ok (.iload 4, 2) := by decide +kernel
theorem dX3_takenSet_34 : decode cX3_takenSet 34 = .ok (.invokestatic 231, 3) := by decide +kernel
theorem dX3_takenSet_37 : decode cX3_takenSet 37 = .ok (.iload_n 1, 1) := by decide +kernel
theorem dX3_takenSet_38 : decode cX3_takenSet 38 = .ok (.invokestatic 231, 3) := by decide +kernel
theorem dX3_takenSet_41 : decode cX3_takenSet 41 = .ok (.if_icmp .ge 7, 3) := by decide +kernel
theorem dX3_takenSet_44 : decode cX3_takenSet 44 = .ok (.iconst 1, 1) := by decide +kernel
theorem dX3_takenSet_45 : decode cX3_takenSet 45 = .ok (.goto 4, 3) := by decide +kernel
theorem dX3_takenSet_48 : decode cX3_takenSet 48 = .ok (.iconst 0, 1) := by decide +kernel
theorem dX3_takenSet_49 : decode cX3_takenSet 49 = .ok (.istore 6, 2) := by decide +kernel
theorem dX3_takenSet_51 : decode cX3_takenSet 51 = .ok (.aload_n 0, 1) := by decide +kernel
theorem dX3_takenSet_52 : decode cX3_takenSet 52 = .ok (.getfield 28, 3) := by decide +kernel
theorem dX3_takenSet_55 : decode cX3_takenSet 55 = .ok (.getfield 185, 3) := by decide +kernel
theorem dX3_takenSet_58 : decode cX3_takenSet 58 = .ok (.iload 4, 2) := by decide +kernel
theorem dX3_takenSet_60 : decode cX3_takenSet 60 = .ok (.iaload, 1) := by decide +kernel
theorem dX3_takenSet_61 : decode cX3_takenSet 61 = .ok (.ifCond .le 26, 3) := by decide +kernel
theorem dX3_takenSet_64 : decode cX3_takenSet 64 = .ok (.iload 5, 2) := by decide +kernel
theorem dX3_takenSet_66 : decode cX3_takenSet 66 = .ok (.iload_n 2, 1) := by decide +kernel
theorem dX3_takenSet_67 : decode cX3_takenSet 67 = .ok (.if_icmp .gt 14, 3) := by decide +kernel
theorem dX3_takenSet_70 : decode cX3_takenSet 70 = .ok (.iload 5, 2) := by decide +kernel
theorem dX3_takenSet_72 : decode cX3_takenSet 72 = .ok (.iload_n 2, 1) := by decide +kernel
theorem dX3_takenSet_73 : decode cX3_takenSet 73 = .ok (.if_icmp .ne 14, 3) := by decide +kernel
theorem dX3_takenSet_76 : decode cX3_takenSet 76 = .ok (.iload 6, 2) := by decide +kernel
theorem dX3_takenSet_78 : decode cX3_takenSet 78 = .ok (.ifCond .eq 9, 3) := by decide +kernel
theorem dX3_takenSet_81 : decode cX3_takenSet 81 = .ok (.iload 4, 2) := by decide +kernel
theorem dX3_takenSet_83 : decode cX3_takenSet 83 = .ok (.istore_n 1, 1) := by decide +kernel
theorem dX3_takenSet_84 : decode cX3_takenSet 84 = .ok (.iload 5, 2) := by decide +kernel
theorem dX3_takenSet_86 : decode cX3_takenSet 86 = .ok (.istore_n 2, 1) := by decide +kernel
theorem dX3_takenSet_87 : decode cX3_takenSet 87 = .ok (.iinc 4 1, 3) := by decide +kernel
theorem dX3_takenSet_90 : decode cX3_takenSet 90 = .ok (.goto (-72), 3) := by decide +kernel
theorem dX3_takenSet_93 : decode cX3_takenSet 93 = .ok (.iload_n 1, 1) := by decide +kernel
theorem dX3_takenSet_94 : decode cX3_takenSet 94 = .ok (.ireturn, 1) := by decide +kernel
theorem dX3_amountsOf_0 : decode cX3_amountsOf 0 = .ok (.iconst 0, 1) := by decide +kernel
theorem dX3_amountsOf_1 : decode cX3_amountsOf 1 = .ok (.istore_n 2, 1) := by decide +kernel
theorem dX3_amountsOf_2 : decode cX3_amountsOf 2 = .ok (.iconst 0, 1) := by decide +kernel
theorem dX3_amountsOf_3 : decode cX3_amountsOf 3 = .ok (.istore_n 3, 1) := by decide +kernel
theorem dX3_amountsOf_4 : decode cX3_amountsOf 4 = .ok (.iload_n 3, 1) := by decide +kernel
theorem dX3_amountsOf_5 : decode cX3_amountsOf 5 = .ok (.aload_n 0, 1) := by decide +kernel
theorem dX3_amountsOf_6 : decode cX3_amountsOf 6 = .ok (.getfield 45, 3) := by decide +kernel
theorem dX3_amountsOf_9 : decode cX3_amountsOf 9 = .ok (.if_icmp .ge 29, 3) := by decide +kernel
theorem dX3_amountsOf_12 : decode cX3_amountsOf 12 = .ok (.iload_n 1, 1) := by decide +kernel
theorem dX3_amountsOf_13 : decode cX3_amountsOf 13 = .ok (.iload_n 3, 1) := by decide +kernel
theorem dX3_amountsOf_14 : decode cX3_amountsOf 14 = .ok (.invokestatic 80, 3) := by decide +kernel
theorem dX3_amountsOf_17 : decode cX3_amountsOf 17 = .ok (.ifCond .eq 15, 3) := by decide +kernel
theorem dX3_amountsOf_20 : decode cX3_amountsOf 20 = .ok (.iload_n 2, 1) := by decide +kernel
theorem dX3_amountsOf_21 : decode cX3_amountsOf 21 = .ok (.aload_n 0, 1) := by decide +kernel
theorem dX3_amountsOf_22 : decode cX3_amountsOf 22 = .ok (.getfield 17, 3) := by decide +kernel
theorem dX3_amountsOf_25 : decode cX3_amountsOf 25 = .ok (.iload_n 3, 1) := by decide +kernel
theorem dX3_amountsOf_26 : decode cX3_amountsOf 26 = .ok (.aaload, 1) := by decide +kernel
theorem dX3_amountsOf_27 : decode cX3_amountsOf 27 = .ok (.getfield 102, 3) := by decide +kernel
theorem dX3_amountsOf_30 : decode cX3_amountsOf 30 = .ok (.iadd, 1) := by decide +kernel
theorem dX3_amountsOf_31 : decode cX3_amountsOf 31 = .ok (.istore_n 2, 1) := by decide +kernel
theorem dX3_amountsOf_32 : decode cX3_amountsOf 32 = .ok (.iinc 3 1, 3) := by decide +kernel
theorem dX3_amountsOf_35 : decode cX3_amountsOf 35 = .ok (.goto (-31), 3) := by decide +kernel
theorem dX3_amountsOf_38 : decode cX3_amountsOf 38 = .ok (.iload_n 2, 1) := by decide +kernel
theorem dX3_amountsOf_39 : decode cX3_amountsOf 39 = .ok (.ireturn, 1) := by decide +kernel
theorem dX3_searchIfStale_0 : decode cX3_searchIfStale 0 = .ok (.aload_n 0, 1) := by decide +kernel
theorem dX3_searchIfStale_1 : decode cX3_searchIfStale 1 = .ok (.getfield 54, 3) := by decide +kernel
theorem dX3_searchIfStale_4 : decode cX3_searchIfStale 4 = .ok (.ifCond .eq 4, 3) := by decide +kernel
theorem dX3_searchIfStale_7 : decode cX3_searchIfStale 7 = .ok (.return_, 1) := by decide +kernel
theorem dX3_searchIfStale_8 : decode cX3_searchIfStale 8 = .ok (.iconst 0, 1) := by decide +kernel
theorem dX3_searchIfStale_9 : decode cX3_searchIfStale 9 = .ok (.istore_n 1, 1) := by decide +kernel
theorem dX3_searchIfStale_10 : decode cX3_searchIfStale 10 = .ok (.iload_n 1, 1) := by decide +kernel
theorem dX3_searchIfStale_11 : decode cX3_searchIfStale 11 = .ok (.bipush 16, 2) := by decide +kernel
theorem dX3_searchIfStale_13 : decode cX3_searchIfStale 13 = .ok (.if_icmp .ge 19, 3) := by decide +kernel
theorem dX3_searchIfStale_16 : decode cX3_searchIfStale 16 = .ok (.aload_n 0, 1) := by decide +kernel
theorem dX3_searchIfStale_17 : decode cX3_searchIfStale 17 = .ok (.getfield 28, 3) := by decide +kernel
theorem dX3_searchIfStale_20 : decode cX3_searchIfStale 20 = .ok (.getfield 185, 3) := by decide +kernel
theorem dX3_searchIfStale_23 : decode cX3_searchIfStale 23 = .ok (.iload_n 1, 1) := by decide +kernel
theorem dX3_searchIfStale_24 : decode cX3_searchIfStale 24 = .ok (.iconst 0, 1) := by decide +kernel
theorem dX3_searchIfStale_25 : decode cX3_searchIfStale 25 = .ok (.iastore, 1) := by decide +kernel
theorem dX3_searchIfStale_26 : decode cX3_searchIfStale 26 = .ok (.iinc 1 1, 3) := by decide +kernel
theorem dX3_searchIfStale_29 : decode cX3_searchIfStale 29 = .ok (.goto (-19), 3) := by decide +kernel
theorem dX3_searchIfStale_32 : decode cX3_searchIfStale 32 = .ok (.aload_n 0, 1) := by decide +kernel
theorem dX3_searchIfStale_33 : decode cX3_searchIfStale 33 = .ok (.invokevirtual 236, 3) := by decide +kernel
theorem dX3_searchIfStale_36 : decode cX3_searchIfStale 36 = .ok (.aload_n 0, 1) := by decide +kernel
theorem dX3_searchIfStale_37 : decode cX3_searchIfStale 37 = .ok (.invokevirtual 239, 3) := by decide +kernel
theorem dX3_searchIfStale_40 : decode cX3_searchIfStale 40 = .ok (.aload_n 0, 1) := by decide +kernel
theorem dX3_searchIfStale_41 : decode cX3_searchIfStale 41 = .ok (.getfield 28, 3) := by decide +kernel
theorem dX3_searchIfStale_44 : decode cX3_searchIfStale 44 = .ok (.iconst 0, 1) := by decide +kernel
theorem dX3_searchIfStale_45 : decode cX3_searchIfStale 45 = .ok (.iconst 0, 1) := by decide +kernel
theorem dX3_searchIfStale_46 : decode cX3_searchIfStale 46 = .ok (.iconst 0, 1) := by decide +kernel
theorem dX3_searchIfStale_47 : decode cX3_searchIfStale 47 = .ok (.invokestatic 242, 3) := by decide +kernel
theorem dX3_searchIfStale_50 : decode cX3_searchIfStale 50 = .ok (.aload_n 0, 1) := by decide +kernel
theorem dX3_searchIfStale_51 : decode cX3_searchIfStale 51 = .ok (.iconst 1, 1) := by decide +kernel
theorem dX3_searchIfStale_52 : decode cX3_searchIfStale 52 = .ok (.putfield 54, 3) := by decide +kernel
theorem dX3_searchIfStale_55 : decode cX3_searchIfStale 55 = .ok (.return_, 1) := by decide +kernel
theorem dX3_noteCargoes_0 : decode cX3_noteCargoes 0 = .ok (.aload_n 0, 1) := by decide +kernel
theorem dX3_noteCargoes_1 : decode cX3_noteCargoes 1 = .ok (.getfield 28, 3) := by decide +kernel
theorem dX3_noteCargoes_4 : decode cX3_noteCargoes 4 = .ok (.aload_n 0, 1) := by decide +kernel
theorem dX3_noteCargoes_5 : decode cX3_noteCargoes 5 = .ok (.getfield 45, 3) := by decide +kernel
theorem dX3_noteCargoes_8 : decode cX3_noteCargoes 8 = .ok (.putfield 246, 3) := by decide +kernel
theorem dX3_noteCargoes_11 : decode cX3_noteCargoes 11 = .ok (.iconst 0, 1) := by decide +kernel
theorem dX3_noteCargoes_12 : decode cX3_noteCargoes 12 = .ok (.istore_n 1, 1) := by decide +kernel
theorem dX3_noteCargoes_13 : decode cX3_noteCargoes 13 = .ok (.iload_n 1, 1) := by decide +kernel
theorem dX3_noteCargoes_14 : decode cX3_noteCargoes 14 = .ok (.aload_n 0, 1) := by decide +kernel
theorem dX3_noteCargoes_15 : decode cX3_noteCargoes 15 = .ok (.getfield 45, 3) := by decide +kernel
theorem dX3_noteCargoes_18 : decode cX3_noteCargoes 18 = .ok (.if_icmp .ge 64, 3) := by decide +kernel
theorem dX3_noteCargoes_21 : decode cX3_noteCargoes 21 = .ok (.aload_n 0, 1) := by decide +kernel
theorem dX3_noteCargoes_22 : decode cX3_noteCargoes 22 = .ok (.getfield 28, 3) := by decide +kernel
theorem dX3_noteCargoes_25 : decode cX3_noteCargoes 25 = .ok (.getfield 247, 3) := by decide +kernel
theorem dX3_noteCargoes_28 : decode cX3_noteCargoes 28 = .ok (.iload_n 1, 1) := by decide +kernel
theorem dX3_noteCargoes_29 : decode cX3_noteCargoes 29 = .ok (.aload_n 0, 1) := by decide +kernel
theorem dX3_noteCargoes_30 : decode cX3_noteCargoes 30 = .ok (.getfield 17, 3) := by decide +kernel
theorem dX3_noteCargoes_33 : decode cX3_noteCargoes 33 = .ok (.iload_n 1, 1) := by decide +kernel
theorem dX3_noteCargoes_34 : decode cX3_noteCargoes 34 = .ok (.aaload, 1) := by decide +kernel
theorem dX3_noteCargoes_35 : decode cX3_noteCargoes 35 = .ok (.getfield 102, 3) := by decide +kernel
theorem dX3_noteCargoes_38 : decode cX3_noteCargoes 38 = .ok (.iastore, 1) := by decide +kernel
theorem dX3_noteCargoes_39 : decode cX3_noteCargoes 39 = .ok (.aload_n 0, 1) := by decide +kernel
theorem dX3_noteCargoes_40 : decode cX3_noteCargoes 40 = .ok (.getfield 28, 3) := by decide +kernel
theorem dX3_noteCargoes_43 : decode cX3_noteCargoes 43 = .ok (.getfield 249, 3) := by decide +kernel
theorem dX3_noteCargoes_46 : decode cX3_noteCargoes 46 = .ok (.iload_n 1, 1) := by decide +kernel
theorem dX3_noteCargoes_47 : decode cX3_noteCargoes 47 = .ok (.aload_n 0, 1) := by decide +kernel
theorem dX3_noteCargoes_48 : decode cX3_noteCargoes 48 = .ok (.getfield 17, 3) := by decide +kernel
theorem dX3_noteCargoes_51 : decode cX3_noteCargoes 51 = .ok (.iload_n 1, 1) := by decide +kernel
theorem dX3_noteCargoes_52 : decode cX3_noteCargoes 52 = .ok (.aaload, 1) := by decide +kernel
theorem dX3_noteCargoes_53 : decode cX3_noteCargoes 53 = .ok (.getfield 102, 3) := by decide +kernel
theorem dX3_noteCargoes_56 : decode cX3_noteCargoes 56 = .ok (.iastore, 1) := by decide +kernel
theorem dX3_noteCargoes_57 : decode cX3_noteCargoes 57 = .ok (.aload_n 0, 1) := by decide +kernel
theorem dX3_noteCargoes_58 : decode cX3_noteCargoes 58 = .ok (.getfield 28, 3) := by decide +kernel
theorem dX3_noteCargoes_61 : decode cX3_noteCargoes 61 = .ok (.getfield 252, 3) := by decide +kernel
theorem dX3_noteCargoes_64 : decode cX3_noteCargoes 64 = .ok (.iload_n 1, 1) := by decide +kernel
theorem dX3_noteCargoes_65 : decode cX3_noteCargoes 65 = .ok (.aload_n 0, 1) := by decide +kernel
theorem dX3_noteCargoes_66 : decode cX3_noteCargoes 66 = .ok (.aload_n 0, 1) := by decide +kernel
theorem dX3_noteCargoes_67 : decode cX3_noteCargoes 67 = .ok (.getfield 17, 3) := by decide +kernel
theorem dX3_noteCargoes_70 : decode cX3_noteCargoes 70 = .ok (.iload_n 1, 1) := by decide +kernel
theorem dX3_noteCargoes_71 : decode cX3_noteCargoes 71 = .ok (.aaload, 1) := by decide +kernel
theorem dX3_noteCargoes_72 : decode cX3_noteCargoes 72 = .ok (.invokevirtual 134, 3) := by decide +kernel
theorem dX3_noteCargoes_75 : decode cX3_noteCargoes 75 = .ok (.iastore, 1) := by decide +kernel
theorem dX3_noteCargoes_76 : decode cX3_noteCargoes 76 = .ok (.iinc 1 1, 3) := by decide +kernel
theorem dX3_noteCargoes_79 : decode cX3_noteCargoes 79 = .ok (.goto (-66), 3) := by decide +kernel
theorem dX3_noteCargoes_82 : decode cX3_noteCargoes 82 = .ok (.return_, 1) := by decide +kernel
theorem dX3_noteTanks_0 : decode cX3_noteTanks 0 = .ok (.aload_n 0, 1) := by decide +kernel
theorem dX3_noteTanks_1 : decode cX3_noteTanks 1 = .ok (.getfield 28, 3) := by decide +kernel
theorem dX3_noteTanks_4 : decode cX3_noteTanks 4 = .ok (.aload_n 0, 1) := by decide +kernel
theorem dX3_noteTanks_5 : decode cX3_noteTanks 5 = .ok (.getfield 41, 3) := by decide +kernel
theorem dX3_noteTanks_8 : decode cX3_noteTanks 8 = .ok (.putfield 255, 3) := by decide +kernel
theorem dX3_noteTanks_11 : decode cX3_noteTanks 11 = .ok (.aload_n 0, 1) := by decide +kernel
theorem dX3_noteTanks_12 : decode cX3_noteTanks 12 = .ok (.getfield 28, 3) := by decide +kernel
theorem dX3_noteTanks_15 : decode cX3_noteTanks 15 = .ok (.aload_n 0, 1) := by decide +kernel
theorem dX3_noteTanks_16 : decode cX3_noteTanks 16 = .ok (.getfield 48, 3) := by decide +kernel
theorem dX3_noteTanks_19 : decode cX3_noteTanks 19 = .ok (.putfield 256, 3) := by decide +kernel
theorem dX3_noteTanks_22 : decode cX3_noteTanks 22 = .ok (.iconst 0, 1) := by decide +kernel
theorem dX3_noteTanks_23 : decode cX3_noteTanks 23 = .ok (.istore_n 1, 1) := by decide +kernel
theorem dX3_noteTanks_24 : decode cX3_noteTanks 24 = .ok (.aload_n 0, 1) := by decide +kernel
theorem dX3_noteTanks_25 : decode cX3_noteTanks 25 = .ok (.getfield 41, 3) := by decide +kernel
theorem dX3_noteTanks_28 : decode cX3_noteTanks 28 = .ok (.iconst 1, 1) := by decide +kernel
theorem dX3_noteTanks_29 : decode cX3_noteTanks 29 = .ok (.isub, 1) := by decide +kernel
theorem dX3_noteTanks_30 : decode cX3_noteTanks 30 = .ok (.istore_n 2, 1) := by decide +kernel
theorem dX3_noteTanks_31 : decode cX3_noteTanks 31 = .ok (.iload_n 2, 1) := by decide +kernel
theorem dX3_noteTanks_32 : decode cX3_noteTanks 32 = .ok (.ifCond .lt 157, 3) := by decide +kernel
theorem dX3_noteTanks_35 : decode cX3_noteTanks 35 = .ok (.aload_n 0, 1) := by decide +kernel
theorem dX3_noteTanks_36 : decode cX3_noteTanks 36 = .ok (.getfield 11, 3) := by decide +kernel
theorem dX3_noteTanks_39 : decode cX3_noteTanks 39 = .ok (.iload_n 2, 1) := by decide +kernel
theorem dX3_noteTanks_40 : decode cX3_noteTanks 40 = .ok (.aaload, 1) := by decide +kernel
theorem dX3_noteTanks_41 : decode cX3_noteTanks 41 = .ok (.astore_n 3, 1) := by decide +kernel
theorem dX3_noteTanks_42 : decode cX3_noteTanks 42 = .ok (.iload_n 1, 1) := by decide +kernel
theorem dX3_noteTanks_43 : decode cX3_noteTanks 43 = .ok (.aload_n 3, 1) := by decide +kernel
theorem dX3_noteTanks_44 : decode cX3_noteTanks 44 = .ok (.getfield 64, 3) := by decide +kernel
theorem dX3_noteTanks_47 : decode cX3_noteTanks 47 = .ok (.iadd, 1) := by decide +kernel
theorem dX3_noteTanks_48 : decode cX3_noteTanks 48 = .ok (.istore_n 1, 1) := by decide +kernel
theorem dX3_noteTanks_49 : decode cX3_noteTanks 49 = .ok (.aload_n 0, 1) := by decide +kernel
theorem dX3_noteTanks_50 : decode cX3_noteTanks 50 = .ok (.getfield 28, 3) := by decide +kernel
theorem dX3_noteTanks_53 : decode cX3_noteTanks 53 = .ok (.getfield 257, 3) := by decide +kernel
theorem dX3_noteTanks_56 : decode cX3_noteTanks 56 = .ok (.iload_n 2, 1) := by decide +kernel
theorem dX3_noteTanks_57 : decode cX3_noteTanks 57 = .ok (.iload_n 1, 1) := by decide +kernel
theorem dX3_noteTanks_58 : decode cX3_noteTanks 58 = .ok (.iastore, 1) := by decide +kernel
theorem dX3_noteTanks_59 : decode cX3_noteTanks 59 = .ok (.aload_n 0, 1) := by decide +kernel
theorem dX3_noteTanks_60 : decode cX3_noteTanks 60 = .ok (.getfield 28, 3) := by decide +kernel
theorem dX3_noteTanks_63 : decode cX3_noteTanks 63 = .ok (.getfield 260, 3) := by decide +kernel
theorem dX3_noteTanks_66 : decode cX3_noteTanks 66 = .ok (.iload_n 2, 1) := by decide +kernel
theorem dX3_noteTanks_67 : decode cX3_noteTanks 67 = .ok (.aload_n 3, 1) := by decide +kernel
theorem dX3_noteTanks_68 : decode cX3_noteTanks 68 = .ok (.getfield 64, 3) := by decide +kernel
theorem dX3_noteTanks_71 : decode cX3_noteTanks 71 = .ok (.iastore, 1) := by decide +kernel
theorem dX3_noteTanks_72 : decode cX3_noteTanks 72 = .ok (.aload_n 0, 1) := by decide +kernel
theorem dX3_noteTanks_73 : decode cX3_noteTanks 73 = .ok (.getfield 28, 3) := by decide +kernel
theorem dX3_noteTanks_76 : decode cX3_noteTanks 76 = .ok (.getfield 262, 3) := by decide +kernel
theorem dX3_noteTanks_79 : decode cX3_noteTanks 79 = .ok (.iload_n 2, 1) := by decide +kernel
theorem dX3_noteTanks_80 : decode cX3_noteTanks 80 = .ok (.aload_n 3, 1) := by decide +kernel
theorem dX3_noteTanks_81 : decode cX3_noteTanks 81 = .ok (.getfield 70, 3) := by decide +kernel
theorem dX3_noteTanks_84 : decode cX3_noteTanks 84 = .ok (.iastore, 1) := by decide +kernel
theorem dX3_noteTanks_85 : decode cX3_noteTanks 85 = .ok (.aload_n 0, 1) := by decide +kernel
theorem dX3_noteTanks_86 : decode cX3_noteTanks 86 = .ok (.getfield 28, 3) := by decide +kernel
theorem dX3_noteTanks_89 : decode cX3_noteTanks 89 = .ok (.getfield 264, 3) := by decide +kernel
theorem dX3_noteTanks_92 : decode cX3_noteTanks 92 = .ok (.iload_n 2, 1) := by decide +kernel
theorem dX3_noteTanks_93 : decode cX3_noteTanks 93 = .ok (.aload_n 3, 1) := by decide +kernel
theorem dX3_noteTanks_94 : decode cX3_noteTanks 94 = .ok (.getfield 77, 3) := by decide +kernel
theorem dX3_noteTanks_97 : decode cX3_noteTanks 97 = .ok (.iastore, 1) := by decide +kernel
theorem dX3_noteTanks_98 : decode cX3_noteTanks 98 = .ok (.aload_n 0, 1) := by decide +kernel
theorem dX3_noteTanks_99 : decode cX3_noteTanks 99 = .ok (.getfield 28, 3) := by decide +kernel
theorem dX3_noteTanks_102 : decode cX3_noteTanks 102 = .ok (.getfield 266, 3) := by decide +kernel
theorem dX3_noteTanks_105 : decode cX3_noteTanks 105 = .ok (.iload_n 2, 1) := by decide +kernel
theorem dX3_noteTanks_106 : decode cX3_noteTanks 106 = .ok (.iconst 0, 1) := by decide +kernel
theorem dX3_noteTanks_107 : decode cX3_noteTanks 107 = .ok (.iastore, 1) := by decide +kernel
theorem dX3_noteTanks_108 : decode cX3_noteTanks 108 = .ok (.iconst 0, 1) := by decide +kernel
theorem dX3_noteTanks_109 : decode cX3_noteTanks 109 = .ok (.istore 4, 2) := by decide +kernel
theorem dX3_noteTanks_111 : decode cX3_noteTanks 111 = .ok (.iload 4, 2) := by decide +kernel
theorem dX3_noteTanks_113 : decode cX3_noteTanks 113 = .ok (.aload_n 0, 1) := by decide +kernel
theorem dX3_noteTanks_114 : decode cX3_noteTanks 114 = .ok (.getfield 45, 3) := by decide +kernel
theorem dX3_noteTanks_117 : decode cX3_noteTanks 117 = .ok (.if_icmp .ge 66, 3) := by decide +kernel
theorem dX3_noteTanks_120 : decode cX3_noteTanks 120 = .ok (.aload_n 0, 1) := by decide +kernel
theorem dX3_noteTanks_121 : decode cX3_noteTanks 121 = .ok (.getfield 28, 3) := by decide +kernel
theorem dX3_noteTanks_124 : decode cX3_noteTanks 124 = .ok (.getfield 269, 3) := by decide +kernel
theorem dX3_noteTanks_127 : decode cX3_noteTanks 127 = .ok (.iload_n 2, 1) := by decide +kernel
theorem dX3_noteTanks_128 : decode cX3_noteTanks 128 = .ok (.iconst 4, 1) := by decide +kernel
theorem dX3_noteTanks_129 : decode cX3_noteTanks 129 = .ok (.imul, 1) := by decide +kernel
theorem dX3_noteTanks_130 : decode cX3_noteTanks 130 = .ok (.iload 4, 2) := by decide +kernel
theorem dX3_noteTanks_132 : decode cX3_noteTanks 132 = .ok (.iadd, 1) := by decide +kernel
theorem dX3_noteTanks_133 : decode cX3_noteTanks 133 = .ok (.aload_n 0, 1) := by decide +kernel
theorem dX3_noteTanks_134 : decode cX3_noteTanks 134 = .ok (.aload_n 3, 1) := by decide +kernel
theorem dX3_noteTanks_135 : decode cX3_noteTanks 135 = .ok (.aload_n 0, 1) := by decide +kernel
theorem dX3_noteTanks_136 : decode cX3_noteTanks 136 = .ok (.getfield 17, 3) := by decide +kernel
theorem dX3_noteTanks_139 : decode cX3_noteTanks 139 = .ok (.iload 4, 2) := by decide +kernel
theorem dX3_noteTanks_141 : decode cX3_noteTanks 141 = .ok (.aaload, 1) := by decide +kernel
theorem dX3_noteTanks_142 : decode cX3_noteTanks 142 = .ok (.invokevirtual 137, 3) := by decide +kernel
theorem dX3_noteTanks_145 : decode cX3_noteTanks 145 = .ok (.iastore, 1) := by decide +kernel
theorem dX3_noteTanks_146 : decode cX3_noteTanks 146 = .ok (.aload_n 0, 1) := by decide +kernel
theorem dX3_noteTanks_147 : decode cX3_noteTanks 147 = .ok (.aload_n 3, 1) := by decide +kernel
theorem dX3_noteTanks_148 : decode cX3_noteTanks 148 = .ok (.aload_n 0, 1) := by decide +kernel
theorem dX3_noteTanks_149 : decode cX3_noteTanks 149 = .ok (.getfield 17, 3) := by decide +kernel
theorem dX3_noteTanks_152 : decode cX3_noteTanks 152 = .ok (.iload 4, 2) := by decide +kernel
theorem dX3_noteTanks_154 : decode cX3_noteTanks 154 = .ok (.aaload, 1) := by decide +kernel
theorem dX3_noteTanks_155 : decode cX3_noteTanks 155 = .ok (.invokevirtual 141, 3) := by decide +kernel
theorem dX3_noteTanks_158 : decode cX3_noteTanks 158 = .ok (.ifCond .ne 19, 3) := by decide +kernel
theorem dX3_noteTanks_161 : decode cX3_noteTanks 161 = .ok (.aload_n 0, 1) := by decide +kernel
theorem dX3_noteTanks_162 : decode cX3_noteTanks 162 = .ok (.getfield 28, 3) := by decide +kernel
theorem dX3_noteTanks_165 : decode cX3_noteTanks 165 = .ok (.getfield 266, 3) := by decide +kernel
theorem dX3_noteTanks_168 : decode cX3_noteTanks 168 = .ok (.iload_n 2, 1) := by decide +kernel
theorem dX3_noteTanks_169 : decode cX3_noteTanks 169 = .ok (.dup2, 1) := by decide +kernel
theorem dX3_noteTanks_170 : decode cX3_noteTanks 170 = .ok (.iaload, 1) := by decide +kernel
theorem dX3_noteTanks_171 : decode cX3_noteTanks 171 = .ok (.iconst 1, 1) := by decide +kernel
theorem dX3_noteTanks_172 : decode cX3_noteTanks 172 = .ok (.iload 4, 2) := by decide +kernel
theorem dX3_noteTanks_174 : decode cX3_noteTanks 174 = .ok (.ishl, 1) := by decide +kernel
theorem dX3_noteTanks_175 : decode cX3_noteTanks 175 = .ok (.ior, 1) := by decide +kernel
theorem dX3_noteTanks_176 : decode cX3_noteTanks 176 = .ok (.iastore, 1) := by decide +kernel
theorem dX3_noteTanks_177 : decode cX3_noteTanks 177 = .ok (.iinc 4 1, 3) := by decide +kernel
theorem dX3_noteTanks_180 : decode cX3_noteTanks 180 = .ok (.goto (-69), 3) := by decide +kernel
theorem dX3_noteTanks_183 : decode cX3_noteTanks 183 = .ok (.iinc 2 (-1), 3) := by decide +kernel
theorem dX3_noteTanks_186 : decode cX3_noteTanks 186 = .ok (.goto (-155), 3) := by decide +kernel
theorem dX3_noteTanks_189 : decode cX3_noteTanks 189 = .ok (.return_, 1) := by decide +kernel
theorem dX3_tryTank_0 : decode cX3_tryTank 0 = .ok (.iload_n 1, 1) := by decide +kernel
theorem dX3_tryTank_1 : decode cX3_tryTank 1 = .ok (.aload_n 0, 1) := by decide +kernel
theorem dX3_tryTank_2 : decode cX3_tryTank 2 = .ok (.getfield 255, 3) := by decide +kernel
theorem dX3_tryTank_5 : decode cX3_tryTank 5 = .ok (.if_icmp .lt 13, 3) := by decide +kernel
theorem dX3_tryTank_8 : decode cX3_tryTank 8 = .ok (.iload_n 3, 1) := by decide +kernel
theorem dX3_tryTank_9 : decode cX3_tryTank 9 = .ok (.ifCond .ne 8, 3) := by decide +kernel
theorem dX3_tryTank_12 : decode cX3_tryTank 12 = .ok (.aload_n 0, 1) := by decide +kernel
theorem dX3_tryTank_13 : decode cX3_tryTank 13 = .ok (.iload_n 2, 1) := by decide +kernel
theorem dX3_tryTank_14 : decode cX3_tryTank 14 = .ok (.invokevirtual 272, 3) := by decide +kernel
theorem dX3_tryTank_17 : decode cX3_tryTank 17 = .ok (.return_, 1) := by decide +kernel
theorem dX3_tryTank_18 : decode cX3_tryTank 18 = .ok (.iload_n 3, 1) := by decide +kernel
theorem dX3_tryTank_19 : decode cX3_tryTank 19 = .ok (.aload_n 0, 1) := by decide +kernel
theorem dX3_tryTank_20 : decode cX3_tryTank 20 = .ok (.getfield 257, 3) := by decide +kernel
theorem dX3_tryTank_23 : decode cX3_tryTank 23 = .ok (.iload_n 1, 1) := by decide +kernel
theorem dX3_tryTank_24 : decode cX3_tryTank 24 = .ok (.iaload, 1) := by decide +kernel
theorem dX3_tryTank_25 : decode cX3_tryTank 25 = .ok (.if_icmp .le 4, 3) := by decide +kernel
theorem dX3_tryTank_28 : decode cX3_tryTank 28 = .ok (.return_, 1) := by decide +kernel
theorem dX3_tryTank_29 : decode cX3_tryTank 29 = .ok (.aload_n 0, 1) := by decide +kernel
theorem dX3_tryTank_30 : decode cX3_tryTank 30 = .ok (.iload_n 1, 1) := by decide +kernel
theorem dX3_tryTank_31 : decode cX3_tryTank 31 = .ok (.invokevirtual 275, 3) := by decide +kernel
theorem dX3_tryTank_34 : decode cX3_tryTank 34 = .ok (.istore 4, 2) := by decide +kernel
theorem dX3_tryTank_36 : decode cX3_tryTank 36 = .ok (.iconst 0, 1) := by decide +kernel
theorem dX3_tryTank_37 : decode cX3_tryTank 37 = .ok (.istore 5, 2) := by decide +kernel
theorem dX3_tryTank_39 : decode cX3_tryTank 39 = .ok (.iload 5, 2) := by decide +kernel
theorem dX3_tryTank_41 : decode cX3_tryTank 41 = .ok (.aload_n 0, 1) := by decide +kernel
theorem dX3_tryTank_42 : decode cX3_tryTank 42 = .ok (.getfield 246, 3) := by decide +kernel
theorem dX3_tryTank_45 : decode cX3_tryTank 45 = .ok (.if_icmp .ge 129, 3) := by decide +kernel
theorem dX3_tryTank_48 : decode cX3_tryTank 48 = .ok (.iload 4, 2) := by decide +kernel
theorem dX3_tryTank_50 : decode cX3_tryTank 50 = .ok (.iload 5, 2) := by decide +kernel
theorem dX3_tryTank_52 : decode cX3_tryTank 52 = .ok (.invokestatic 80, 3) := by decide +kernel
theorem dX3_tryTank_55 : decode cX3_tryTank 55 = .ok (.ifCond .eq 113, 3) := by decide +kernel
theorem dX3_tryTank_58 : decode cX3_tryTank 58 = .ok (.aload_n 0, 1) := by decide +kernel
theorem dX3_tryTank_59 : decode cX3_tryTank 59 = .ok (.getfield 249, 3) := by decide +kernel
theorem dX3_tryTank_62 : decode cX3_tryTank 62 = .ok (.iload 5, 2) := by decide +kernel
theorem dX3_tryTank_64 : decode cX3_tryTank 64 = .ok (.iaload, 1) := by decide +kernel
theorem dX3_tryTank_65 : decode cX3_tryTank 65 = .ok (.ifCond .le 103, 3) := by decide +kernel
theorem dX3_tryTank_68 : decode cX3_tryTank 68 = .ok (.aload_n 0, 1) := by decide +kernel
theorem dX3_tryTank_69 : decode cX3_tryTank 69 = .ok (.getfield 260, 3) := by decide +kernel
theorem dX3_tryTank_72 : decode cX3_tryTank 72 = .ok (.iload_n 1, 1) := by decide +kernel
theorem dX3_tryTank_73 : decode cX3_tryTank 73 = .ok (.iaload, 1) := by decide +kernel
theorem dX3_tryTank_74 : decode cX3_tryTank 74 = .ok (.aload_n 0, 1) := by decide +kernel
theorem dX3_tryTank_75 : decode cX3_tryTank 75 = .ok (.getfield 249, 3) := by decide +kernel
theorem dX3_tryTank_78 : decode cX3_tryTank 78 = .ok (.iload 5, 2) := by decide +kernel
theorem dX3_tryTank_80 : decode cX3_tryTank 80 = .ok (.iaload, 1) := by decide +kernel
theorem dX3_tryTank_81 : decode cX3_tryTank 81 = .ok (.invokestatic 224, 3) := by decide +kernel
theorem dX3_tryTank_84 : decode cX3_tryTank 84 = .ok (.istore 6, 2) := by decide +kernel
theorem dX3_tryTank_86 : decode cX3_tryTank 86 = .ok (.iload_n 2, 1) := by decide +kernel
theorem dX3_tryTank_87 : decode cX3_tryTank 87 = .ok (.iload 5, 2) := by decide +kernel
theorem dX3_tryTank_89 : decode cX3_tryTank 89 = .ok (.invokestatic 80, 3) := by decide +kernel
theorem dX3_tryTank_92 : decode cX3_tryTank 92 = .ok (.ifCond .eq 7, 3) := by decide +kernel
theorem dX3_tryTank_95 : decode cX3_tryTank 95 = .ok (.iconst 0, 1) := by decide +kernel
theorem dX3_tryTank_96 : decode cX3_tryTank 96 = .ok (.goto 10, 3) := by decide +kernel
theorem dX3_tryTank_99 : decode cX3_tryTank 99 = .ok (.aload_n 0, 1) := by decide +kernel
theorem dX3_tryTank_100 : decode cX3_tryTank 100 = .ok (.getfield 247, 3) := by decide +kernel
theorem dX3_tryTank_103 : decode cX3_tryTank 103 = .ok (.iload 5, 2) := by decide +kernel
theorem dX3_tryTank_105 : decode cX3_tryTank 105 = .ok (.iaload, 1) := by decide +kernel
theorem dX3_tryTank_106 : decode cX3_tryTank 106 = .ok (.istore 7, 2) := by decide +kernel
theorem dX3_tryTank_108 : decode cX3_tryTank 108 = .ok (.aload_n 0, 1) := by decide +kernel
theorem dX3_tryTank_109 : decode cX3_tryTank 109 = .ok (.getfield 278, 3) := by decide +kernel
theorem dX3_tryTank_112 : decode cX3_tryTank 112 = .ok (.iload_n 1, 1) := by decide +kernel
theorem dX3_tryTank_113 : decode cX3_tryTank 113 = .ok (.iload 5, 2) := by decide +kernel
theorem dX3_tryTank_115 : decode cX3_tryTank 115 = .ok (.iastore, 1) := by decide +kernel
theorem dX3_tryTank_116 : decode cX3_tryTank 116 = .ok (.aload_n 0, 1) := by decide +kernel
theorem dX3_tryTank_117 : decode cX3_tryTank 117 = .ok (.getfield 281, 3) := by decide +kernel
theorem dX3_tryTank_120 : decode cX3_tryTank 120 = .ok (.iload_n 1, 1) := by decide +kernel
theorem dX3_tryTank_121 : decode cX3_tryTank 121 = .ok (.iload 6, 2) := by decide +kernel
theorem dX3_tryTank_123 : decode cX3_tryTank 123 = .ok (.iastore, 1) := by decide +kernel
theorem dX3_tryTank_124 : decode cX3_tryTank 124 = .ok (.aload_n 0, 1) := by decide +kernel
theorem dX3_tryTank_125 : decode cX3_tryTank 125 = .ok (.getfield 249, 3) := by decide +kernel
theorem dX3_tryTank_128 : decode cX3_tryTank 128 = .ok (.iload 5, 2) := by decide +kernel
theorem dX3_tryTank_130 : decode cX3_tryTank 130 = .ok (.dup2, 1) := by decide +kernel
theorem dX3_tryTank_131 : decode cX3_tryTank 131 = .ok (.iaload, 1) := by decide +kernel
theorem dX3_tryTank_132 : decode cX3_tryTank 132 = .ok (.iload 6, 2) := by decide +kernel
theorem dX3_tryTank_134 : decode cX3_tryTank 134 = .ok (.isub, 1) := by decide +kernel
theorem dX3_tryTank_135 : decode cX3_tryTank 135 = .ok (.iastore, 1) := by decide +kernel
theorem dX3_tryTank_136 : decode cX3_tryTank 136 = .ok (.aload_n 0, 1) := by decide +kernel
theorem dX3_tryTank_137 : decode cX3_tryTank 137 = .ok (.iload_n 1, 1) := by decide +kernel
theorem dX3_tryTank_138 : decode cX3_tryTank 138 = .ok (.iconst 1, 1) := by decide +kernel
theorem dX3_tryTank_139 : decode cX3_tryTank 139 = .ok (.iadd, 1) := by decide +kernel
theorem dX3_tryTank_140 : decode cX3_tryTank 140 = .ok (.iload_n 2, 1) := by decide +kernel
theorem dX3_tryTank_141 : decode cX3_tryTank 141 = .ok (.iconst 1, 1) := by decide +kernel
theorem dX3_tryTank_142 : decode cX3_tryTank 142 = .ok (.iload 5, 2) := by decide +kernel
theorem dX3_tryTank_144 : decode cX3_tryTank 144 = .ok (.ishl, 1) := by decide +kernel
theorem dX3_tryTank_145 : decode cX3_tryTank 145 = .ok (.ior, 1) := by decide +kernel
theorem dX3_tryTank_146 : decode cX3_tryTank 146 = .ok (.iload_n 3, 1) := by decide +kernel
theorem dX3_tryTank_147 : decode cX3_tryTank 147 = .ok (.iload 7, 2) := by decide +kernel
theorem dX3_tryTank_149 : decode cX3_tryTank 149 = .ok (.iadd, 1) := by decide +kernel
theorem dX3_tryTank_150 : decode cX3_tryTank 150 = .ok (.iload 6, 2) := by decide +kernel
theorem dX3_tryTank_152 : decode cX3_tryTank 152 = .ok (.isub, 1) := by decide +kernel
theorem dX3_tryTank_153 : decode cX3_tryTank 153 = .ok (.invokestatic 242, 3) := by decide +kernel
theorem dX3_tryTank_156 : decode cX3_tryTank 156 = .ok (.aload_n 0, 1) := by decide +kernel
theorem dX3_tryTank_157 : decode cX3_tryTank 157 = .ok (.getfield 249, 3) := by decide +kernel
theorem dX3_tryTank_160 : decode cX3_tryTank 160 = .ok (.iload 5, 2) := by decide +kernel
theorem dX3_tryTank_162 : decode cX3_tryTank 162 = .ok (.dup2, 1) := by decide +kernel
theorem dX3_tryTank_163 : decode cX3_tryTank 163 = .ok (.iaload, 1) := by decide +kernel
theorem dX3_tryTank_164 : decode cX3_tryTank 164 = .ok (.iload 6, 2) := by decide +kernel
theorem dX3_tryTank_166 : decode cX3_tryTank 166 = .ok (.iadd, 1) := by decide +kernel
theorem dX3_tryTank_167 : decode cX3_tryTank 167 = .ok (.iastore, 1) := by decide +kernel
theorem dX3_tryTank_168 : decode cX3_tryTank 168 = .ok (.iinc 5 1, 3) := by decide +kernel
theorem dX3_tryTank_171 : decode cX3_tryTank 171 = .ok (.goto (-132), 3) := by decide +kernel
theorem dX3_tryTank_174 : decode cX3_tryTank 174 = .ok (.aload_n 0, 1) := by decide +kernel
theorem dX3_tryTank_175 : decode cX3_tryTank 175 = .ok (.getfield 278, 3) := by decide +kernel
theorem dX3_tryTank_178 : decode cX3_tryTank 178 = .ok (.iload_n 1, 1) := by decide +kernel
theorem dX3_tryTank_179 : decode cX3_tryTank 179 = .ok (.bipush (-9), 2) := by decide +kernel
theorem dX3_tryTank_181 : decode cX3_tryTank 181 = .ok (.iastore, 1) := by decide +kernel
theorem dX3_tryTank_182 : decode cX3_tryTank 182 = .ok (.aload_n 0, 1) := by decide +kernel
theorem dX3_tryTank_183 : decode cX3_tryTank 183 = .ok (.getfield 281, 3) := by decide +kernel
theorem dX3_tryTank_186 : decode cX3_tryTank 186 = .ok (.iload_n 1, 1) := by decide +kernel
theorem dX3_tryTank_187 : decode cX3_tryTank 187 = .ok (.iconst 0, 1) := by decide +kernel
theorem dX3_tryTank_188 : decode cX3_tryTank 188 = .ok (.iastore, 1) := by decide +kernel
theorem dX3_tryTank_189 : decode cX3_tryTank 189 = .ok (.aload_n 0, 1) := by decide +kernel
theorem dX3_tryTank_190 : decode cX3_tryTank 190 = .ok (.iload_n 1, 1) := by decide +kernel
theorem dX3_tryTank_191 : decode cX3_tryTank 191 = .ok (.iconst 1, 1) := by decide +kernel
theorem dX3_tryTank_192 : decode cX3_tryTank 192 = .ok (.iadd, 1) := by decide +kernel
theorem dX3_tryTank_193 : decode cX3_tryTank 193 = .ok (.iload_n 2, 1) := by decide +kernel
theorem dX3_tryTank_194 : decode cX3_tryTank 194 = .ok (.iload_n 3, 1) := by decide +kernel
theorem dX3_tryTank_195 : decode cX3_tryTank 195 = .ok (.invokestatic 242, 3) := by decide +kernel
theorem dX3_tryTank_198 : decode cX3_tryTank 198 = .ok (.return_, 1) := by decide +kernel
theorem dX0_init_0 : decode cX0_init 0 = .ok (.aload_n 0, 1) := by decide +kernel
theorem dX0_init_1 : decode cX0_init 1 = .ok (.invokespecial 1, 3) := by decide +kernel
theorem dX0_init_4 : decode cX0_init 4 = .ok (.aload_n 0, 1) := by decide +kernel
theorem dX0_init_5 : decode cX0_init 5 = .ok (.iconst 0, 1) := by decide +kernel
theorem dX0_init_6 : decode cX0_init 6 = .ok (.putfield 7, 3) := by decide +kernel
theorem dX0_init_9 : decode cX0_init 9 = .ok (.aload_n 0, 1) := by decide +kernel
theorem dX0_init_10 : decode cX0_init 10 = .ok (.iconst 0, 1) := by decide +kernel
theorem dX0_init_11 : decode cX0_init 11 = .ok (.putfield 13, 3) := by decide +kernel
theorem dX0_init_14 : decode cX0_init 14 = .ok (.aload_n 0, 1) := by decide +kernel
theorem dX0_init_15 : decode cX0_init 15 = .ok (.iconst 0, 1) := by decide +kernel
theorem dX0_init_16 : decode cX0_init 16 = .ok (.putfield 16, 3) := by decide +kernel
theorem dX0_init_19 : decode cX0_init 19 = .ok (.aload_n 0, 1) := by decide +kernel
theorem dX0_init_20 : decode cX0_init 20 = .ok (.iconst 0, 1) := by decide +kernel
theorem dX0_init_21 : decode cX0_init 21 = .ok (.putfield 19, 3) := by decide +kernel
theorem dX0_init_24 : decode cX0_init 24 = .ok (.aload_n 0, 1) := by decide +kernel
theorem dX0_init_25 : decode cX0_init 25 = .ok (.iconst 0, 1) := by decide +kernel
theorem dX0_init_26 : decode cX0_init 26 = .ok (.putfield 22, 3) := by decide +kernel
theorem dX0_init_29 : decode cX0_init 29 = .ok (.aload_n 0, 1) := by decide +kernel
theorem dX0_init_30 : decode cX0_init 30 = .ok (.iconst 0, 1) := by decide +kernel
theorem dX0_init_31 : decode cX0_init 31 = .ok (.putfield 25, 3) := by decide +kernel
theorem dX0_init_34 : decode cX0_init 34 = .ok (.return_, 1) := by decide +kernel
theorem dX1_init_0 : decode cX1_init 0 = .ok (.aload_n 0, 1) := by decide +kernel
theorem dX1_init_1 : decode cX1_init 1 = .ok (.invokespecial 3, 3) := by decide +kernel
theorem dX1_init_4 : decode cX1_init 4 = .ok (.aload_n 0, 1) := by decide +kernel
theorem dX1_init_5 : decode cX1_init 5 = .ok (.iconst 0, 1) := by decide +kernel
theorem dX1_init_6 : decode cX1_init 6 = .ok (.putfield 9, 3) := by decide +kernel
theorem dX1_init_9 : decode cX1_init 9 = .ok (.aload_n 0, 1) := by decide +kernel
theorem dX1_init_10 : decode cX1_init 10 = .ok (.iconst 0, 1) := by decide +kernel
theorem dX1_init_11 : decode cX1_init 11 = .ok (.putfield 15, 3) := by decide +kernel
theorem dX1_init_14 : decode cX1_init 14 = .ok (.aload_n 0, 1) := by decide +kernel
theorem dX1_init_15 : decode cX1_init 15 = .ok (.iconst 0, 1) := by decide +kernel
theorem dX1_init_16 : decode cX1_init 16 = .ok (.putfield 18, 3) := by decide +kernel
theorem dX1_init_19 : decode cX1_init 19 = .ok (.aload_n 0, 1) := by decide +kernel
theorem dX1_init_20 : decode cX1_init 20 = .ok (.bipush 6, 2) := by decide +kernel
theorem dX1_init_22 : decode cX1_init 22 = .ok (.newarray .int, 2) := by decide +kernel
theorem dX1_init_24 : decode cX1_init 24 = .ok (.putfield 21, 3) := by decide +kernel
theorem dX1_init_27 : decode cX1_init 27 = .ok (.aload_n 0, 1) := by decide +kernel
theorem dX1_init_28 : decode cX1_init 28 = .ok (.bipush 6, 2) := by decide +kernel
theorem dX1_init_30 : decode cX1_init 30 = .ok (.newarray .int, 2) := by decide +kernel
theorem dX1_init_32 : decode cX1_init 32 = .ok (.putfield 25, 3) := by decide +kernel
theorem dX1_init_35 : decode cX1_init 35 = .ok (.aload_n 0, 1) := by decide +kernel
theorem dX1_init_36 : decode cX1_init 36 = .ok (.bipush 6, 2) := by decide +kernel
theorem dX1_init_38 : decode cX1_init 38 = .ok (.newarray .int, 2) := by decide +kernel
theorem dX1_init_40 : decode cX1_init 40 = .ok (.putfield 28, 3) := by decide +kernel
theorem dX1_init_43 : decode cX1_init 43 = .ok (.aload_n 0, 1) := by decide +kernel
theorem dX1_init_44 : decode cX1_init 44 = .ok (.bipush 6, 2) := by decide +kernel
theorem dX1_init_46 : decode cX1_init 46 = .ok (.newarray .int, 2) := by decide +kernel
theorem dX1_init_48 : decode cX1_init 48 = .ok (.putfield 31, 3) := by decide +kernel
theorem dX1_init_51 : decode cX1_init 51 = .ok (.aload_n 0, 1) := by decide +kernel
theorem dX1_init_52 : decode cX1_init 52 = .ok (.bipush 6, 2) := by decide +kernel
theorem dX1_init_54 : decode cX1_init 54 = .ok (.newarray .int, 2) := by decide +kernel
theorem dX1_init_56 : decode cX1_init 56 = .ok (.putfield 34, 3) := by decide +kernel
theorem dX1_init_59 : decode cX1_init 59 = .ok (.aload_n 0, 1) := by decide +kernel
theorem dX1_init_60 : decode cX1_init 60 = .ok (.bipush 24, 2) := by decide +kernel
theorem dX1_init_62 : decode cX1_init 62 = .ok (.newarray .int, 2) := by decide +kernel
theorem dX1_init_64 : decode cX1_init 64 = .ok (.putfield 37, 3) := by decide +kernel
theorem dX1_init_67 : decode cX1_init 67 = .ok (.aload_n 0, 1) := by decide +kernel
theorem dX1_init_68 : decode cX1_init 68 = .ok (.iconst 4, 1) := by decide +kernel
theorem dX1_init_69 : decode cX1_init 69 = .ok (.newarray .int, 2) := by decide +kernel
theorem dX1_init_71 : decode cX1_init 71 = .ok (.putfield 40, 3) := by decide +kernel
theorem dX1_init_74 : decode cX1_init 74 = .ok (.aload_n 0, 1) := by decide +kernel
theorem dX1_init_75 : decode cX1_init 75 = .ok (.iconst 4, 1) := by decide +kernel
theorem dX1_init_76 : decode cX1_init 76 = .ok (.newarray .int, 2) := by decide +kernel
theorem dX1_init_78 : decode cX1_init 78 = .ok (.putfield 43, 3) := by decide +kernel
theorem dX1_init_81 : decode cX1_init 81 = .ok (.aload_n 0, 1) := by decide +kernel
theorem dX1_init_82 : decode cX1_init 82 = .ok (.iconst 4, 1) := by decide +kernel
theorem dX1_init_83 : decode cX1_init 83 = .ok (.newarray .int, 2) := by decide +kernel
theorem dX1_init_85 : decode cX1_init 85 = .ok (.putfield 46, 3) := by decide +kernel
theorem dX1_init_88 : decode cX1_init 88 = .ok (.aload_n 0, 1) := by decide +kernel
theorem dX1_init_89 : decode cX1_init 89 = .ok (.bipush 6, 2) := by decide +kernel
theorem dX1_init_91 : decode cX1_init 91 = .ok (.newarray .int, 2) := by decide +kernel
theorem dX1_init_93 : decode cX1_init 93 = .ok (.putfield 49, 3) := by decide +kernel
theorem dX1_init_96 : decode cX1_init 96 = .ok (.aload_n 0, 1) := by decide +kernel
theorem dX1_init_97 : decode cX1_init 97 = .ok (.bipush 6, 2) := by decide +kernel
theorem dX1_init_99 : decode cX1_init 99 = .ok (.newarray .int, 2) := by decide +kernel
theorem dX1_init_101 : decode cX1_init 101 = .ok (.putfield 52, 3) := by decide +kernel
theorem dX1_init_104 : decode cX1_init 104 = .ok (.aload_n 0, 1) := by decide +kernel
theorem dX1_init_105 : decode cX1_init 105 = .ok (.bipush 16, 2) := by decide +kernel
theorem dX1_init_107 : decode cX1_init 107 = .ok (.newarray .int, 2) := by decide +kernel
theorem dX1_init_109 : decode cX1_init 109 = .ok (.putfield 55, 3) := by decide +kernel
theorem dX1_init_112 : decode cX1_init 112 = .ok (.aload_n 0, 1) := by decide +kernel
theorem dX1_init_113 : decode cX1_init 113 = .ok (.bipush 16, 2) := by decide +kernel
theorem dX1_init_115 : decode cX1_init 115 = .ok (.newarray .int, 2) := by decide +kernel
theorem dX1_init_117 : decode cX1_init 117 = .ok (.putfield 58, 3) := by decide +kernel
theorem dX1_init_120 : decode cX1_init 120 = .ok (.aload_n 0, 1) := by decide +kernel
theorem dX1_init_121 : decode cX1_init 121 = .ok (.bipush 16, 2) := by decide +kernel
theorem dX1_init_123 : decode cX1_init 123 = .ok (.newarray .int, 2) := by decide +kernel
theorem dX1_init_125 : decode cX1_init 125 = .ok (.putfield 61, 3) := by decide +kernel
theorem dX1_init_128 : decode cX1_init 128 = .ok (.aload_n 0, 1) := by decide +kernel
theorem dX1_init_129 : decode cX1_init 129 = .ok (.bipush 16, 2) := by decide +kernel
theorem dX1_init_131 : decode cX1_init 131 = .ok (.newarray .int, 2) := by decide +kernel
theorem dX1_init_133 : decode cX1_init 133 = .ok (.putfield 64, 3) := by decide +kernel
theorem dX1_init_136 : decode cX1_init 136 = .ok (.aload_n 0, 1) := by decide +kernel
theorem dX1_init_137 : decode cX1_init 137 = .ok (.bipush 96, 2) := by decide +kernel
theorem dX1_init_139 : decode cX1_init 139 = .ok (.newarray .int, 2) := by decide +kernel
theorem dX1_init_141 : decode cX1_init 141 = .ok (.putfield 67, 3) := by decide +kernel
theorem dX1_init_144 : decode cX1_init 144 = .ok (.aload_n 0, 1) := by decide +kernel
theorem dX1_init_145 : decode cX1_init 145 = .ok (.bipush 96, 2) := by decide +kernel
theorem dX1_init_147 : decode cX1_init 147 = .ok (.newarray .int, 2) := by decide +kernel
theorem dX1_init_149 : decode cX1_init 149 = .ok (.putfield 70, 3) := by decide +kernel
theorem dX1_init_152 : decode cX1_init 152 = .ok (.return_, 1) := by decide +kernel
theorem dX1_openTo_0 : decode cX1_openTo 0 = .ok (.aload_n 0, 1) := by decide +kernel
theorem dX1_openTo_1 : decode cX1_openTo 1 = .ok (.getfield 34, 3) := by decide +kernel
theorem dX1_openTo_4 : decode cX1_openTo 4 = .ok (.iload_n 1, 1) := by decide +kernel
theorem dX1_openTo_5 : decode cX1_openTo 5 = .ok (.iaload, 1) := by decide +kernel
theorem dX1_openTo_6 : decode cX1_openTo 6 = .ok (.istore_n 2, 1) := by decide +kernel
theorem dX1_openTo_7 : decode cX1_openTo 7 = .ok (.iconst 0, 1) := by decide +kernel
theorem dX1_openTo_8 : decode cX1_openTo 8 = .ok (.istore_n 3, 1) := by decide +kernel
theorem dX1_openTo_9 : decode cX1_openTo 9 = .ok (.iload_n 3, 1) := by decide +kernel
theorem dX1_openTo_10 : decode cX1_openTo 10 = .ok (.iload_n 1, 1) := by decide +kernel
theorem dX1_openTo_11 : decode cX1_openTo 11 = .ok (.if_icmp .ge 49, 3) := by decide +kernel
theorem dX1_openTo_14 : decode cX1_openTo 14 = .ok (.aload_n 0, 1) := by decide +kernel
theorem dX1_openTo_15 : decode cX1_openTo 15 = .ok (.getfield 28, 3) := by decide +kernel
theorem dX1_openTo_18 : decode cX1_openTo 18 = .ok (.iload_n 1, 1) := by decide +kernel
theorem dX1_openTo_19 : decode cX1_openTo 19 = .ok (.iaload, 1) := by decide +kernel
theorem dX1_openTo_20 : decode cX1_openTo 20 = .ok (.iload_n 3, 1) := by decide +kernel
theorem dX1_openTo_21 : decode cX1_openTo 21 = .ok (.invokestatic 73, 3) := by decide +kernel
theorem dX1_openTo_24 : decode cX1_openTo 24 = .ok (.ifCond .eq 30, 3) := by decide +kernel
theorem dX1_openTo_27 : decode cX1_openTo 27 = .ok (.aload_n 0, 1) := by decide +kernel
theorem dX1_openTo_28 : decode cX1_openTo 28 = .ok (.getfield 49, 3) := by decide +kernel
theorem dX1_openTo_31 : decode cX1_openTo 31 = .ok (.iload_n 3, 1) := by decide +kernel
theorem dX1_openTo_32 : decode cX1_openTo 32 = .ok (.iaload, 1) := by decide +kernel
theorem dX1_openTo_33 : decode cX1_openTo 33 = .ok (.bipush (-9), 2) := by decide +kernel
theorem dX1_openTo_35 : decode cX1_openTo 35 = .ok (.if_icmp .eq 19, 3) := by decide +kernel
theorem dX1_openTo_38 : decode cX1_openTo 38 = .ok (.iload_n 2, 1) := by decide +kernel
theorem dX1_openTo_39 : decode cX1_openTo 39 = .ok (.aload_n 0, 1) := by decide +kernel
theorem dX1_openTo_40 : decode cX1_openTo 40 = .ok (.getfield 43, 3) := by decide +kernel
theorem dX1_openTo_43 : decode cX1_openTo 43 = .ok (.aload_n 0, 1) := by decide +kernel
theorem dX1_openTo_44 : decode cX1_openTo 44 = .ok (.getfield 49, 3) := by decide +kernel
theorem dX1_openTo_47 : decode cX1_openTo 47 = .ok (.iload_n 3, 1) := by decide +kernel
theorem dX1_openTo_48 : decode cX1_openTo 48 = .ok (.iaload, 1) := by decide +kernel
theorem dX1_openTo_49 : decode cX1_openTo 49 = .ok (.iaload, 1) := by decide +kernel
theorem dX1_openTo_50 : decode cX1_openTo 50 = .ok (.iconst (-1), 1) := by decide +kernel
theorem dX1_openTo_51 : decode cX1_openTo 51 = .ok (.ixor, 1) := by decide +kernel
theorem dX1_openTo_52 : decode cX1_openTo 52 = .ok (.iand, 1) := by decide +kernel
theorem dX1_openTo_53 : decode cX1_openTo 53 = .ok (.istore_n 2, 1) := by decide +kernel
theorem dX1_openTo_54 : decode cX1_openTo 54 = .ok (.iinc 3 1, 3) := by decide +kernel
theorem dX1_openTo_57 : decode cX1_openTo 57 = .ok (.goto (-48), 3) := by decide +kernel
theorem dX1_openTo_60 : decode cX1_openTo 60 = .ok (.iload_n 2, 1) := by decide +kernel
theorem dX1_openTo_61 : decode cX1_openTo 61 = .ok (.ireturn, 1) := by decide +kernel
theorem dX1_keepIfBetter_0 : decode cX1_keepIfBetter 0 = .ok (.iconst 0, 1) := by decide +kernel
theorem dX1_keepIfBetter_1 : decode cX1_keepIfBetter 1 = .ok (.istore_n 2, 1) := by decide +kernel
theorem dX1_keepIfBetter_2 : decode cX1_keepIfBetter 2 = .ok (.iconst 0, 1) := by decide +kernel
theorem dX1_keepIfBetter_3 : decode cX1_keepIfBetter 3 = .ok (.istore_n 3, 1) := by decide +kernel
theorem dX1_keepIfBetter_4 : decode cX1_keepIfBetter 4 = .ok (.iconst 0, 1) := by decide +kernel
theorem dX1_keepIfBetter_5 : decode cX1_keepIfBetter 5 = .ok (.istore 4, 2) := by decide +kernel
theorem dX1_keepIfBetter_7 : decode cX1_keepIfBetter 7 = .ok (.iconst 0, 1) := by decide +kernel
theorem dX1_keepIfBetter_8 : decode cX1_keepIfBetter 8 = .ok (.istore 5, 2) := by decide +kernel
theorem dX1_keepIfBetter_10 : decode cX1_keepIfBetter 10 = .ok (.iload 5, 2) := by decide +kernel
theorem dX1_keepIfBetter_12 : decode cX1_keepIfBetter 12 = .ok (.aload_n 0, 1) := by decide +kernel
theorem dX1_keepIfBetter_13 : decode cX1_keepIfBetter 13 = .ok (.getfield 9, 3) := by decide +kernel
theorem dX1_keepIfBetter_16 : decode cX1_keepIfBetter 16 = .ok (.if_icmp .ge 62, 3) := by decide +kernel
theorem dX1_keepIfBetter_19 : decode cX1_keepIfBetter 19 = .ok (.aload_n 0, 1) := by decide +kernel
theorem dX1_keepIfBetter_20 : decode cX1_keepIfBetter 20 = .ok (.getfield 49, 3) := by decide +kernel
theorem dX1_keepIfBetter_23 : decode cX1_keepIfBetter 23 = .ok (.iload 5, 2) := by decide +kernel
theorem dX1_keepIfBetter_25 : decode cX1_keepIfBetter 25 = .ok (.iaload, 1) := by decide +kernel
theorem dX1_keepIfBetter_26 : decode cX1_keepIfBetter 26 = .ok (.bipush (-9), 2) := by decide +kernel
theorem dX1_keepIfBetter_28 : decode cX1_keepIfBetter 28 = .ok (.if_icmp .eq 44, 3) := by decide +kernel
theorem dX1_keepIfBetter_31 : decode cX1_keepIfBetter 31 = .ok (.iload_n 2, 1) := by decide +kernel
theorem dX1_keepIfBetter_32 : decode cX1_keepIfBetter 32 = .ok (.aload_n 0, 1) := by decide +kernel
theorem dX1_keepIfBetter_33 : decode cX1_keepIfBetter 33 = .ok (.getfield 52, 3) := by decide +kernel
theorem dX1_keepIfBetter_36 : decode cX1_keepIfBetter 36 = .ok (.iload 5, 2) := by decide +kernel
theorem dX1_keepIfBetter_38 : decode cX1_keepIfBetter 38 = .ok (.iaload, 1) := by decide +kernel
theorem dX1_keepIfBetter_39 : decode cX1_keepIfBetter 39 = .ok (.aload_n 0, 1) := by decide +kernel
theorem dX1_keepIfBetter_40 : decode cX1_keepIfBetter 40 = .ok (.getfield 25, 3) := by decide +kernel
theorem dX1_keepIfBetter_43 : decode cX1_keepIfBetter 43 = .ok (.iload 5, 2) := by decide +kernel
theorem dX1_keepIfBetter_45 : decode cX1_keepIfBetter 45 = .ok (.iaload, 1) := by decide +kernel
theorem dX1_keepIfBetter_46 : decode cX1_keepIfBetter 46 = .ok (.imul, 1) := by decide +kernel
theorem dX1_keepIfBetter_47 : decode cX1_keepIfBetter 47 = .ok (.iadd, 1) := by decide +kernel
theorem dX1_keepIfBetter_48 : decode cX1_keepIfBetter 48 = .ok (.istore_n 2, 1) := by decide +kernel
theorem dX1_keepIfBetter_49 : decode cX1_keepIfBetter 49 = .ok (.iload_n 3, 1) := by decide +kernel
theorem dX1_keepIfBetter_50 : decode cX1_keepIfBetter 50 = .ok (.aload_n 0, 1) := by decide +kernel
theorem dX1_keepIfBetter_51 : decode cX1_keepIfBetter 51 = .ok (.getfield 37, 3) := by decide +kernel
theorem dX1_keepIfBetter_54 : decode cX1_keepIfBetter 54 = .ok (.iload 5, 2) := by decide +kernel
theorem dX1_keepIfBetter_56 : decode cX1_keepIfBetter 56 = .ok (.iconst 4, 1) := by decide +kernel
theorem dX1_keepIfBetter_57 : decode cX1_keepIfBetter 57 = .ok (.imul, 1) := by decide +kernel
theorem dX1_keepIfBetter_58 : decode cX1_keepIfBetter 58 = .ok (.aload_n 0, 1) := by decide +kernel
theorem dX1_keepIfBetter_59 : decode cX1_keepIfBetter 59 = .ok (.getfield 49, 3) := by decide +kernel
theorem dX1_keepIfBetter_62 : decode cX1_keepIfBetter 62 = .ok (.iload 5, 2) := by decide +kernel
theorem dX1_keepIfBetter_64 : decode cX1_keepIfBetter 64 = .ok (.iaload, 1) := by decide +kernel
theorem dX1_keepIfBetter_65 : decode cX1_keepIfBetter 65 = .ok (.iadd, 1) := by decide +kernel
theorem dX1_keepIfBetter_66 : decode cX1_keepIfBetter 66 = .ok (.iaload, 1) := by decide +kernel
theorem dX1_keepIfBetter_67 : decode cX1_keepIfBetter 67 = .ok (.iadd, 1) := by decide +kernel
theorem dX1_keepIfBetter_68 : decode cX1_keepIfBetter 68 = .ok (.istore_n 3, 1) := by decide +kernel
theorem dX1_keepIfBetter_69 : decode cX1_keepIfBetter 69 = .ok (.iinc 4 1, 3) := by decide +kernel
theorem dX1_keepIfBetter_72 : decode cX1_keepIfBetter 72 = .ok (.iinc 5 1, 3) := by decide +kernel
theorem dX1_keepIfBetter_75 : decode cX1_keepIfBetter 75 = .ok (.goto (-65), 3) := by decide +kernel
theorem dX1_keepIfBetter_78 : decode cX1_keepIfBetter 78 = .ok (.iload_n 2, 1) := by decide +kernel
theorem dX1_keepIfBetter_79 : decode cX1_keepIfBetter 79 = .ok (.invokestatic 77, 3) := by decide +kernel
theorem dX1_keepIfBetter_82 : decode cX1_keepIfBetter 82 = .ok (.aload_n 0, 1) := by decide +kernel
theorem dX1_keepIfBetter_83 : decode cX1_keepIfBetter 83 = .ok (.getfield 18, 3) := by decide +kernel
theorem dX1_keepIfBetter_86 : decode cX1_keepIfBetter 86 = .ok (.if_icmp .le 4, 3) := by decide +kernel
theorem dX1_keepIfBetter_89 : decode cX1_keepIfBetter 89 = .ok (.return_, 1) := by decide +kernel
theorem dX1_keepIfBetter_90 : decode cX1_keepIfBetter 90 = .ok (.aload_n 0, 1) := by decide +kernel
theorem dX1_keepIfBetter_91 : decode cX1_keepIfBetter 91 = .ok (.getfield 55, 3) := by decide +kernel
theorem dX1_keepIfBetter_94 : decode cX1_keepIfBetter 94 = .ok (.iload_n 1, 1) := by decide +kernel
theorem dX1_keepIfBetter_95 : decode cX1_keepIfBetter 95 = .ok (.dup2, 1) := by decide +kernel
theorem dX1_keepIfBetter_96 : decode cX1_keepIfBetter 96 = .ok (.iaload, 1) := by decide +kernel
theorem dX1_keepIfBetter_97 : decode cX1_keepIfBetter 97 = .ok (.iconst 1, 1) := by decide +kernel
theorem dX1_keepIfBetter_98 : decode cX1_keepIfBetter 98 = .ok (.iadd, 1) := by decide +kernel
theorem dX1_keepIfBetter_99 : decode cX1_keepIfBetter 99 = .ok (.iastore, 1) := by decide +kernel
theorem dX1_keepIfBetter_100 : decode cX1_keepIfBetter 100 = .ok (.iload_n 3, 1) := by decide +kernel
theorem dX1_keepIfBetter_101 : decode cX1_keepIfBetter 101 = .ok (.aload_n 0, 1) := by decide +kernel
theorem dX1_keepIfBetter_102 : decode cX1_keepIfBetter 102 = .ok (.getfield 58, 3) := by decide +kernel
theorem dX1_keepIfBetter_105 : decode cX1_keepIfBetter 105 = .ok (.iload_n 1, 1) := by decide +kernel
theorem dX1_keepIfBetter_106 : decode cX1_keepIfBetter 106 = .ok (.iaload, 1) := by decide +kernel
theorem dX1_keepIfBetter_107 : decode cX1_keepIfBetter 107 = .ok (.if_icmp .lt 24, 3) := by decide +kernel
theorem dX1_keepIfBetter_110 : decode cX1_keepIfBetter 110 = .ok (.iload_n 3, 1) := by decide +kernel
theorem dX1_keepIfBetter_111 : decode cX1_keepIfBetter 111 = .ok (.aload_n 0, 1) := by decide +kernel
theorem dX1_keepIfBetter_112 : decode cX1_keepIfBetter 112 = .ok (.getfield 58, 3) := by decide +kernel
theorem dX1_keepIfBetter_115 : decode cX1_keepIfBetter 115 = .ok (.iload_n 1, 1) := by decide +kernel
theorem dX1_keepIfBetter_116 : decode cX1_keepIfBetter 116 = .ok (.iaload, 1) := by decide +kernel
theorem dX1_keepIfBetter_117 : decode cX1_keepIfBetter 117 = .ok (.if_icmp .ne 18, 3) := by decide +kernel
theorem dX1_keepIfBetter_120 : decode cX1_keepIfBetter 120 = .ok (.iload 4, 2) := by decide +kernel
theorem dX1_keepIfBetter_122 : decode cX1_keepIfBetter 122 = .ok (.aload_n 0, 1) := by decide +kernel
theorem dX1_keepIfBetter_123 : decode cX1_keepIfBetter 123 = .ok (.getfield 61, 3) := by decide +kernel
theorem dX1_keepIfBetter_126 : decode cX1_keepIfBetter 126 = .ok (.iload_n 1, 1) := by decide +kernel
theorem dX1_keepIfBetter_127 : decode cX1_keepIfBetter 127 = .ok (.iaload, 1) := by decide +kernel
theorem dX1_keepIfBetter_128 : decode cX1_keepIfBetter 128 = .ok (.if_icmp .ge 7, 3) := by decide +kernel
theorem dX1_keepIfBetter_131 : decode cX1_keepIfBetter 131 = .ok (.iconst 1, 1) := by decide +kernel
theorem dX1_keepIfBetter_132 : decode cX1_keepIfBetter 132 = .ok (.goto 4, 3) := by decide +kernel
theorem dX1_keepIfBetter_135 : decode cX1_keepIfBetter 135 = .ok (.iconst 0, 1) := by decide +kernel
theorem dX1_keepIfBetter_136 : decode cX1_keepIfBetter 136 = .ok (.istore 5, 2) := by decide +kernel
theorem dX1_keepIfBetter_138 : decode cX1_keepIfBetter 138 = .ok (.aload_n 0, 1) := by decide +kernel
theorem dX1_keepIfBetter_139 : decode cX1_keepIfBetter 139 = .ok (.getfield 55, 3) := by decide +kernel
theorem dX1_keepIfBetter_142 : decode cX1_keepIfBetter 142 = .ok (.iload_n 1, 1) := by decide +kernel
theorem dX1_keepIfBetter_143 : decode cX1_keepIfBetter 143 = .ok (.iaload, 1) := by decide +kernel
theorem dX1_keepIfBetter_144 : decode cX1_keepIfBetter 144 = .ok (.iconst 1, 1) := by decide +kernel
theorem dX1_keepIfBetter_145 : decode cX1_keepIfBetter 145 = .ok (.if_icmp .eq 8, 3) := by decide +kernel
theorem dX1_keepIfBetter_148 : decode cX1_keepIfBetter 148 = .ok (.iload 5, 2) := by decide +kernel
theorem dX1_keepIfBetter_150 : decode cX1_keepIfBetter 150 = .ok (.ifCond .eq 81, 3) := by decide +kernel
theorem dX1_keepIfBetter_153 : decode cX1_keepIfBetter 153 = .ok (.aload_n 0, 1) := by decide +kernel
theorem dX1_keepIfBetter_154 : decode cX1_keepIfBetter 154 = .ok (.getfield 58, 3) := by decide +kernel
theorem dX1_keepIfBetter_157 : decode cX1_keepIfBetter 157 = .ok (.iload_n 1, 1) := by decide +kernel
theorem dX1_keepIfBetter_158 : decode cX1_keepIfBetter 158 = .ok (.iload_n 3, 1) := by decide +kernel
theorem dX1_keepIfBetter_159 : decode cX1_keepIfBetter 159 = .ok (.iastore, 1) := by decide +kernel
theorem dX1_keepIfBetter_160 : decode cX1_keepIfBetter 160 = .ok (.aload_n 0, 1) := by decide +kernel
theorem dX1_keepIfBetter_161 : decode cX1_keepIfBetter 161 = .ok (.getfield 61, 3) := by decide +kernel
theorem dX1_keepIfBetter_164 : decode cX1_keepIfBetter 164 = .ok (.iload_n 1, 1) := by decide +kernel
theorem dX1_keepIfBetter_165 : decode cX1_keepIfBetter 165 = .ok (.iload 4, 2) := by decide +kernel
theorem dX1_keepIfBetter_167 : decode cX1_keepIfBetter 167 = .ok (.iastore, 1) := by decide +kernel
theorem dX1_keepIfBetter_168 : decode cX1_keepIfBetter 168 = .ok (.aload_n 0, 1) := by decide +kernel
theorem dX1_keepIfBetter_169 : decode cX1_keepIfBetter 169 = .ok (.getfield 64, 3) := by decide +kernel
theorem dX1_keepIfBetter_172 : decode cX1_keepIfBetter 172 = .ok (.iload_n 1, 1) := by decide +kernel
theorem dX1_keepIfBetter_173 : decode cX1_keepIfBetter 173 = .ok (.iload_n 2, 1) := by decide +kernel
theorem dX1_keepIfBetter_174 : decode cX1_keepIfBetter 174 = .ok (.iastore, 1) := by decide +kernel
theorem dX1_keepIfBetter_175 : decode cX1_keepIfBetter 175 = .ok (.iconst 0, 1) := by decide +kernel
theorem dX1_keepIfBetter_176 : decode cX1_keepIfBetter 176 = .ok (.istore 6, 2) := by decide +kernel
theorem dX1_keepIfBetter_178 : decode cX1_keepIfBetter 178 = .ok (.iload 6, 2) := by decide +kernel
theorem dX1_keepIfBetter_180 : decode cX1_keepIfBetter 180 = .ok (.aload_n 0, 1) := by decide +kernel
theorem dX1_keepIfBetter_181 : decode cX1_keepIfBetter 181 = .ok (.getfield 9, 3) := by decide +kernel
theorem dX1_keepIfBetter_184 : decode cX1_keepIfBetter 184 = .ok (.if_icmp .ge 47, 3) := by decide +kernel
theorem dX1_keepIfBetter_187 : decode cX1_keepIfBetter 187 = .ok (.aload_n 0, 1) := by decide +kernel
theorem dX1_keepIfBetter_188 : decode cX1_keepIfBetter 188 = .ok (.getfield 67, 3) := by decide +kernel
theorem dX1_keepIfBetter_191 : decode cX1_keepIfBetter 191 = .ok (.iload_n 1, 1) := by decide +kernel
theorem dX1_keepIfBetter_192 : decode cX1_keepIfBetter 192 = .ok (.bipush 6, 2) := by decide +kernel
theorem dX1_keepIfBetter_194 : decode cX1_keepIfBetter 194 = .ok (.imul, 1) := by decide +kernel
theorem dX1_keepIfBetter_195 : decode cX1_keepIfBetter 195 = .ok (.iload 6, 2) := by decide +kernel
theorem dX1_keepIfBetter_197 : decode cX1_keepIfBetter 197 = .ok (.iadd, 1) := by decide +kernel
theorem dX1_keepIfBetter_198 : decode cX1_keepIfBetter 198 = .ok (.aload_n 0, 1) := by decide +kernel
theorem dX1_keepIfBetter_199 : decode cX1_keepIfBetter 199 = .ok (.getfield 49, 3) := by decide +kernel
theorem dX1_keepIfBetter_202 : decode cX1_keepIfBetter 202 = .ok (.iload 6, 2) := by decide +kernel
theorem dX1_keepIfBetter_204 : decode cX1_keepIfBetter 204 = .ok (.iaload, 1) := by decide +kernel
theorem dX1_keepIfBetter_205 : decode cX1_keepIfBetter 205 = .ok (.iastore, 1) := by decide +kernel
theorem dX1_keepIfBetter_206 : decode cX1_keepIfBetter 206 = .ok (.aload_n 0, 1) := by decide +kernel
theorem dX1_keepIfBetter_207 : decode cX1_keepIfBetter 207 = .ok (.getfield 70, 3) := by decide +kernel
theorem dX1_keepIfBetter_210 : decode cX1_keepIfBetter 210 = .ok (.iload_n 1, 1) := by decide +kernel
theorem dX1_keepIfBetter_211 : decode cX1_keepIfBetter 211 = .ok (.bipush 6, 2) := by decide +kernel
theorem dX1_keepIfBetter_213 : decode cX1_keepIfBetter 213 = .ok (.imul, 1) := by decide +kernel
theorem dX1_keepIfBetter_214 : decode cX1_keepIfBetter 214 = .ok (.iload 6, 2) := by decide +kernel
theorem dX1_keepIfBetter_216 : decode cX1_keepIfBetter 216 = .ok (.iadd, 1) := by decide +kernel
theorem dX1_keepIfBetter_217 : decode cX1_keepIfBetter 217 = .ok (.aload_n 0, 1) := by decide +kernel
theorem dX1_keepIfBetter_218 : decode cX1_keepIfBetter 218 = .ok (.getfield 52, 3) := by decide +kernel
theorem dX1_keepIfBetter_221 : decode cX1_keepIfBetter 221 = .ok (.iload 6, 2) := by decide +kernel
theorem dX1_keepIfBetter_223 : decode cX1_keepIfBetter 223 = .ok (.iaload, 1) := by decide +kernel
theorem dX1_keepIfBetter_224 : decode cX1_keepIfBetter 224 = .ok (.iastore, 1) := by decide +kernel
theorem dX1_keepIfBetter_225 : decode cX1_keepIfBetter 225 = .ok (.iinc 6 1, 3) := by decide +kernel
theorem dX1_keepIfBetter_228 : decode cX1_keepIfBetter 228 = .ok (.goto (-50), 3) := by decide +kernel
theorem dX1_keepIfBetter_231 : decode cX1_keepIfBetter 231 = .ok (.return_, 1) := by decide +kernel
theorem dX2_init_0 : decode cX2_init 0 = .ok (.aload_n 0, 1) := by decide +kernel
theorem dX2_init_1 : decode cX2_init 1 = .ok (.invokespecial 3, 3) := by decide +kernel
theorem dX2_init_4 : decode cX2_init 4 = .ok (.aload_n 0, 1) := by decide +kernel
theorem dX2_init_5 : decode cX2_init 5 = .ok (.iconst 0, 1) := by decide +kernel
theorem dX2_init_6 : decode cX2_init 6 = .ok (.putfield 9, 3) := by decide +kernel
theorem dX2_init_9 : decode cX2_init 9 = .ok (.aload_n 0, 1) := by decide +kernel
theorem dX2_init_10 : decode cX2_init 10 = .ok (.iconst 0, 1) := by decide +kernel
theorem dX2_init_11 : decode cX2_init 11 = .ok (.putfield 15, 3) := by decide +kernel
theorem dX2_init_14 : decode cX2_init 14 = .ok (.aload_n 0, 1) := by decide +kernel
theorem dX2_init_15 : decode cX2_init 15 = .ok (.iconst 0, 1) := by decide +kernel
theorem dX2_init_16 : decode cX2_init 16 = .ok (.putfield 18, 3) := by decide +kernel
theorem dX2_init_19 : decode cX2_init 19 = .ok (.aload_n 0, 1) := by decide +kernel
theorem dX2_init_20 : decode cX2_init 20 = .ok (.iconst 0, 1) := by decide +kernel
theorem dX2_init_21 : decode cX2_init 21 = .ok (.putfield 21, 3) := by decide +kernel
theorem dX2_init_24 : decode cX2_init 24 = .ok (.aload_n 0, 1) := by decide +kernel
theorem dX2_init_25 : decode cX2_init 25 = .ok (.iconst 3, 1) := by decide +kernel
theorem dX2_init_26 : decode cX2_init 26 = .ok (.newarray .int, 2) := by decide +kernel
theorem dX2_init_28 : decode cX2_init 28 = .ok (.dup, 1) := by decide +kernel
theorem dX2_init_29 : decode cX2_init 29 = .ok (.iconst 0, 1) := by decide +kernel
theorem dX2_init_30 : decode cX2_init 30 = .ok (.bipush (-9), 2) := by decide +kernel
theorem dX2_init_32 : decode cX2_init 32 = .ok (.iastore, 1) := by decide +kernel
theorem dX2_init_33 : decode cX2_init 33 = .ok (.dup, 1) := by decide +kernel
theorem dX2_init_34 : decode cX2_init 34 = .ok (.iconst 1, 1) := by decide +kernel
theorem dX2_init_35 : decode cX2_init 35 = .ok (.bipush (-9), 2) := by decide +kernel
theorem dX2_init_37 : decode cX2_init 37 = .ok (.iastore, 1) := by decide +kernel
theorem dX2_init_38 : decode cX2_init 38 = .ok (.dup, 1) := by decide +kernel
theorem dX2_init_39 : decode cX2_init 39 = .ok (.iconst 2, 1) := by decide +kernel
theorem dX2_init_40 : decode cX2_init 40 = .ok (.bipush (-9), 2) := by decide +kernel
theorem dX2_init_42 : decode cX2_init 42 = .ok (.iastore, 1) := by decide +kernel
theorem dX2_init_43 : decode cX2_init 43 = .ok (.putfield 24, 3) := by decide +kernel
theorem dX2_init_46 : decode cX2_init 46 = .ok (.aload_n 0, 1) := by decide +kernel
theorem dX2_init_47 : decode cX2_init 47 = .ok (.bipush (-9), 2) := by decide +kernel
theorem dX2_init_49 : decode cX2_init 49 = .ok (.putfield 28, 3) := by decide +kernel
theorem dX2_init_52 : decode cX2_init 52 = .ok (.aload_n 0, 1) := by decide +kernel
theorem dX2_init_53 : decode cX2_init 53 = .ok (.iconst 0, 1) := by decide +kernel
theorem dX2_init_54 : decode cX2_init 54 = .ok (.putfield 31, 3) := by decide +kernel
theorem dX2_init_57 : decode cX2_init 57 = .ok (.return_, 1) := by decide +kernel
theorem dX2_leaveEmpty_0 : decode cX2_leaveEmpty 0 = .ok (.aload_n 0, 1) := by decide +kernel
theorem dX2_leaveEmpty_1 : decode cX2_leaveEmpty 1 = .ok (.bipush (-9), 2) := by decide +kernel
theorem dX2_leaveEmpty_3 : decode cX2_leaveEmpty 3 = .ok (.putfield 28, 3) := by decide +kernel
theorem dX2_leaveEmpty_6 : decode cX2_leaveEmpty 6 = .ok (.aload_n 0, 1) := by decide +kernel
theorem dX2_leaveEmpty_7 : decode cX2_leaveEmpty 7 = .ok (.iconst 0, 1) := by decide +kernel
theorem dX2_leaveEmpty_8 : decode cX2_leaveEmpty 8 = .ok (.putfield 31, 3) := by decide +kernel
theorem dX2_leaveEmpty_11 : decode cX2_leaveEmpty 11 = .ok (.aload_n 0, 1) := by decide +kernel
theorem dX2_leaveEmpty_12 : decode cX2_leaveEmpty 12 = .ok (.getfield 24, 3) := by decide +kernel
theorem dX2_leaveEmpty_15 : decode cX2_leaveEmpty 15 = .ok (.iconst 2, 1) := by decide +kernel
theorem dX2_leaveEmpty_16 : decode cX2_leaveEmpty 16 = .ok (.aload_n 0, 1) := by decide +kernel
theorem dX2_leaveEmpty_17 : decode cX2_leaveEmpty 17 = .ok (.getfield 24, 3) := by decide +kernel
theorem dX2_leaveEmpty_20 : decode cX2_leaveEmpty 20 = .ok (.iconst 1, 1) := by decide +kernel
theorem dX2_leaveEmpty_21 : decode cX2_leaveEmpty 21 = .ok (.iaload, 1) := by decide +kernel
theorem dX2_leaveEmpty_22 : decode cX2_leaveEmpty 22 = .ok (.iastore, 1) := by decide +kernel
theorem dX2_leaveEmpty_23 : decode cX2_leaveEmpty 23 = .ok (.aload_n 0, 1) := by decide +kernel
theorem dX2_leaveEmpty_24 : decode cX2_leaveEmpty 24 = .ok (.getfield 24, 3) := by decide +kernel
theorem dX2_leaveEmpty_27 : decode cX2_leaveEmpty 27 = .ok (.iconst 1, 1) := by decide +kernel
theorem dX2_leaveEmpty_28 : decode cX2_leaveEmpty 28 = .ok (.aload_n 0, 1) := by decide +kernel
theorem dX2_leaveEmpty_29 : decode cX2_leaveEmpty 29 = .ok (.getfield 24, 3) := by decide +kernel
theorem dX2_leaveEmpty_32 : decode cX2_leaveEmpty 32 = .ok (.iconst 0, 1) := by decide +kernel
theorem dX2_leaveEmpty_33 : decode cX2_leaveEmpty 33 = .ok (.iaload, 1) := by decide +kernel
theorem dX2_leaveEmpty_34 : decode cX2_leaveEmpty 34 = .ok (.iastore, 1) := by decide +kernel
theorem dX2_leaveEmpty_35 : decode cX2_leaveEmpty 35 = .ok (.aload_n 0, 1) := by decide +kernel
theorem dX2_leaveEmpty_36 : decode cX2_leaveEmpty 36 = .ok (.getfield 24, 3) := by decide +kernel
theorem dX2_leaveEmpty_39 : decode cX2_leaveEmpty 39 = .ok (.iconst 0, 1) := by decide +kernel
theorem dX2_leaveEmpty_40 : decode cX2_leaveEmpty 40 = .ok (.iload_n 1, 1) := by decide +kernel
theorem dX2_leaveEmpty_41 : decode cX2_leaveEmpty 41 = .ok (.iastore, 1) := by decide +kernel
theorem dX2_leaveEmpty_42 : decode cX2_leaveEmpty 42 = .ok (.return_, 1) := by decide +kernel
theorem dJ6_bitCount_0f7a4_0 : decode cJ6_bitCount_0f7a4 0 = .ok (.iload_n 0, 1) := by decide +kernel
theorem dJ6_bitCount_0f7a4_1 : decode cJ6_bitCount_0f7a4 1 = .ok (.iload_n 0, 1) := by decide +kernel
theorem dJ6_bitCount_0f7a4_2 : decode cJ6_bitCount_0f7a4 2 = .ok (.iconst 1, 1) := by decide +kernel
theorem dJ6_bitCount_0f7a4_3 : decode cJ6_bitCount_0f7a4 3 = .ok (.iushr, 1) := by decide +kernel
theorem dJ6_bitCount_0f7a4_4 : decode cJ6_bitCount_0f7a4 4 = .ok (.ldc_w 265, 3) := by decide +kernel
theorem dJ6_bitCount_0f7a4_7 : decode cJ6_bitCount_0f7a4 7 = .ok (.iand, 1) := by decide +kernel
theorem dJ6_bitCount_0f7a4_8 : decode cJ6_bitCount_0f7a4 8 = .ok (.isub, 1) := by decide +kernel
theorem dJ6_bitCount_0f7a4_9 : decode cJ6_bitCount_0f7a4 9 = .ok (.istore_n 0, 1) := by decide +kernel
theorem dJ6_bitCount_0f7a4_10 : decode cJ6_bitCount_0f7a4 10 = .ok (.iload_n 0, 1) := by decide +kernel
theorem dJ6_bitCount_0f7a4_11 : decode cJ6_bitCount_0f7a4 11 = .ok (.ldc_w 266, 3) := by decide +kernel
theorem dJ6_bitCount_0f7a4_14 : decode cJ6_bitCount_0f7a4 14 = .ok (.iand, 1) := by decide +kernel
theorem dJ6_bitCount_0f7a4_15 : decode cJ6_bitCount_0f7a4 15 = .ok (.iload_n 0, 1) := by decide +kernel
theorem dJ6_bitCount_0f7a4_16 : decode cJ6_bitCount_0f7a4 16 = .ok (.iconst 2, 1) := by decide +kernel
theorem dJ6_bitCount_0f7a4_17 : decode cJ6_bitCount_0f7a4 17 = .ok (.iushr, 1) := by decide +kernel
theorem dJ6_bitCount_0f7a4_18 : decode cJ6_bitCount_0f7a4 18 = .ok (.ldc_w 266, 3) := by decide +kernel
theorem dJ6_bitCount_0f7a4_21 : decode cJ6_bitCount_0f7a4 21 = .ok (.iand, 1) := by decide +kernel
theorem dJ6_bitCount_0f7a4_22 : decode cJ6_bitCount_0f7a4 22 = .ok (.iadd, 1) := by decide +kernel
theorem dJ6_bitCount_0f7a4_23 : decode cJ6_bitCount_0f7a4 23 = .ok (.istore_n 0, 1) := by decide +kernel
theorem dJ6_bitCount_0f7a4_24 : decode cJ6_bitCount_0f7a4 24 = .ok (.iload_n 0, 1) := by decide +kernel
theorem dJ6_bitCount_0f7a4_25 : decode cJ6_bitCount_0f7a4 25 = .ok (.iload_n 0, 1) := by decide +kernel
theorem dJ6_bitCount_0f7a4_26 : decode cJ6_bitCount_0f7a4 26 = .ok (.iconst 4, 1) := by decide +kernel
theorem dJ6_bitCount_0f7a4_27 : decode cJ6_bitCount_0f7a4 27 = .ok (.iushr, 1) := by decide +kernel
theorem dJ6_bitCount_0f7a4_28 : decode cJ6_bitCount_0f7a4 28 = .ok (.iadd, 1) := by decide +kernel
theorem dJ6_bitCount_0f7a4_29 : decode cJ6_bitCount_0f7a4 29 = .ok (.ldc_w 267, 3) := by decide +kernel
theorem dJ6_bitCount_0f7a4_32 : decode cJ6_bitCount_0f7a4 32 = .ok (.iand, 1) := by decide +kernel
theorem dJ6_bitCount_0f7a4_33 : decode cJ6_bitCount_0f7a4 33 = .ok (.istore_n 0, 1) := by decide +kernel
theorem dJ6_bitCount_0f7a4_34 : decode cJ6_bitCount_0f7a4 34 = .ok (.iload_n 0, 1) := by decide +kernel
theorem dJ6_bitCount_0f7a4_35 : decode cJ6_bitCount_0f7a4 35 = .ok (.iload_n 0, 1) := by decide +kernel
theorem dJ6_bitCount_0f7a4_36 : decode cJ6_bitCount_0f7a4 36 = .ok (.bipush 8, 2) := by decide +kernel
theorem dJ6_bitCount_0f7a4_38 : decode cJ6_bitCount_0f7a4 38 = .ok (.iushr, 1) := by decide +kernel
theorem dJ6_bitCount_0f7a4_39 : decode cJ6_bitCount_0f7a4 39 = .ok (.iadd, 1) := by decide +kernel
theorem dJ6_bitCount_0f7a4_40 : decode cJ6_bitCount_0f7a4 40 = .ok (.istore_n 0, 1) := by decide +kernel
theorem dJ6_bitCount_0f7a4_41 : decode cJ6_bitCount_0f7a4 41 = .ok (.iload_n 0, 1) := by decide +kernel
theorem dJ6_bitCount_0f7a4_42 : decode cJ6_bitCount_0f7a4 42 = .ok (.iload_n 0, 1) := by decide +kernel
theorem dJ6_bitCount_0f7a4_43 : decode cJ6_bitCount_0f7a4 43 = .ok (.bipush 16, 2) := by decide +kernel
theorem dJ6_bitCount_0f7a4_45 : decode cJ6_bitCount_0f7a4 45 = .ok (.iushr, 1) := by decide +kernel
theorem dJ6_bitCount_0f7a4_46 : decode cJ6_bitCount_0f7a4 46 = .ok (.iadd, 1) := by decide +kernel
theorem dJ6_bitCount_0f7a4_47 : decode cJ6_bitCount_0f7a4 47 = .ok (.istore_n 0, 1) := by decide +kernel
theorem dJ6_bitCount_0f7a4_48 : decode cJ6_bitCount_0f7a4 48 = .ok (.iload_n 0, 1) := by decide +kernel
theorem dJ6_bitCount_0f7a4_49 : decode cJ6_bitCount_0f7a4 49 = .ok (.bipush 63, 2) := by decide +kernel
theorem dJ6_bitCount_0f7a4_51 : decode cJ6_bitCount_0f7a4 51 = .ok (.iand, 1) := by decide +kernel
theorem dJ6_bitCount_0f7a4_52 : decode cJ6_bitCount_0f7a4 52 = .ok (.ireturn, 1) := by decide +kernel
theorem dJ9_abs_0f7a4_0 : decode cJ9_abs_0f7a4 0 = .ok (.iload_n 0, 1) := by decide +kernel
theorem dJ9_abs_0f7a4_1 : decode cJ9_abs_0f7a4 1 = .ok (.ifCond .ge 8, 3) := by decide +kernel
theorem dJ9_abs_0f7a4_4 : decode cJ9_abs_0f7a4 4 = .ok (.iload_n 0, 1) := by decide +kernel
theorem dJ9_abs_0f7a4_5 : decode cJ9_abs_0f7a4 5 = .ok (.ineg, 1) := by decide +kernel
theorem dJ9_abs_0f7a4_6 : decode cJ9_abs_0f7a4 6 = .ok (.goto 4, 3) := by decide +kernel
theorem dJ9_abs_0f7a4_9 : decode cJ9_abs_0f7a4 9 = .ok (.iload_n 0, 1) := by decide +kernel
theorem dJ9_abs_0f7a4_10 : decode cJ9_abs_0f7a4 10 = .ok (.ireturn, 1) := by decide +kernel
theorem dJ9_min_7cf53_0 : decode cJ9_min_7cf53 0 = .ok (.iload_n 0, 1) := by decide +kernel
theorem dJ9_min_7cf53_1 : decode cJ9_min_7cf53 1 = .ok (.iload_n 1, 1) := by decide +kernel
theorem dJ9_min_7cf53_2 : decode cJ9_min_7cf53 2 = .ok (.if_icmp .gt 7, 3) := by decide +kernel
theorem dJ9_min_7cf53_5 : decode cJ9_min_7cf53 5 = .ok (.iload_n 0, 1) := by decide +kernel
theorem dJ9_min_7cf53_6 : decode cJ9_min_7cf53 6 = .ok (.goto 4, 3) := by decide +kernel
theorem dJ9_min_7cf53_9 : decode cJ9_min_7cf53 9 = .ok (.iload_n 1, 1) := by decide +kernel
theorem dJ9_min_7cf53_10 : decode cJ9_min_7cf53 10 = .ok (.ireturn, 1) := by decide +kernel
end
section
theorem dL_law_0 : decode cL_law 0 = .ok (.new 7, 3) := by decide +kernel
theorem dL_law_3 : decode cL_law 3 = .ok (.dup, 1) := by decide +kernel
theorem dL_law_4 : decode cL_law 4 = .ok (.invokespecial 9, 3) := by decide +kernel
theorem dL_law_7 : decode cL_law 7 = .ok (.astore_n 1, 1) := by decide +kernel
theorem dL_law_8 : decode cL_law 8 = .ok (.new 10, 3) := by decide +kernel
theorem dL_law_11 : decode cL_law 11 = .ok (.dup, 1) := by decide +kernel
theorem dL_law_12 : decode cL_law 12 = .ok (.invokespecial 12, 3) := by decide +kernel
theorem dL_law_15 : decode cL_law 15 = .ok (.astore_n 2, 1) := by decide +kernel
theorem dL_law_16 : decode cL_law 16 = .ok (.iconst 0, 1) := by decide +kernel
theorem dL_law_17 : decode cL_law 17 = .ok (.istore_n 3, 1) := by decide +kernel
theorem dL_law_18 : decode cL_law 18 = .ok (.iload_n 3, 1) := by decide +kernel
theorem dL_law_19 : decode cL_law 19 = .ok (.aload_n 0, 1) := by decide +kernel
theorem dL_law_20 : decode cL_law 20 = .ok (.arraylength, 1) := by decide +kernel
theorem dL_law_21 : decode cL_law 21 = .ok (.bipush 7, 2) := by decide +kernel
theorem dL_law_23 : decode cL_law 23 = .ok (.isub, 1) := by decide +kernel
theorem dL_law_24 : decode cL_law 24 = .ok (.if_icmp .gt 805, 3) := by decide +kernel
theorem dL_law_27 : decode cL_law 27 = .ok (.aload_n 0, 1) := by decide +kernel
theorem dL_law_28 : decode cL_law 28 = .ok (.iload_n 3, 1) := by decide +kernel
theorem dL_law_29 : decode cL_law 29 = .ok (.iaload, 1) := by decide +kernel
theorem dL_law_30 : decode cL_law 30 = .ok (.bipush 31, 2) := by decide +kernel
theorem dL_law_32 : decode cL_law 32 = .ok (.iand, 1) := by decide +kernel
theorem dL_law_33 : decode cL_law 33 = .ok (.tableswitch 790 0 20 #[99, 142, 201, 244, 319, 332, 365, 408, 431, 464, 497, 530, 563, 596, 619, 642, 675, 688, 701, 724, 767], 99) := by decide +kernel
theorem dL_law_132 : decode cL_law 132 = .ok (.aload_n 1, 1) := by decide +kernel
theorem dL_law_133 : decode cL_law 133 = .ok (.aload_n 0, 1) := by decide +kernel
theorem dL_law_134 : decode cL_law 134 = .ok (.iload_n 3, 1) := by decide +kernel
theorem dL_law_135 : decode cL_law 135 = .ok (.iconst 1, 1) := by decide +kernel
theorem dL_law_136 : decode cL_law 136 = .ok (.iadd, 1) := by decide +kernel
theorem dL_law_137 : decode cL_law 137 = .ok (.iaload, 1) := by decide +kernel
theorem dL_law_138 : decode cL_law 138 = .ok (.aload_n 0, 1) := by decide +kernel
theorem dL_law_139 : decode cL_law 139 = .ok (.iload_n 3, 1) := by decide +kernel
theorem dL_law_140 : decode cL_law 140 = .ok (.iconst 2, 1) := by decide +kernel
theorem dL_law_141 : decode cL_law 141 = .ok (.iadd, 1) := by decide +kernel
theorem dL_law_142 : decode cL_law 142 = .ok (.iaload, 1) := by decide +kernel
theorem dL_law_143 : decode cL_law 143 = .ok (.aload_n 0, 1) := by decide +kernel
theorem dL_law_144 : decode cL_law 144 = .ok (.iload_n 3, 1) := by decide +kernel
theorem dL_law_145 : decode cL_law 145 = .ok (.iconst 3, 1) := by decide +kernel
theorem dL_law_146 : decode cL_law 146 = .ok (.iadd, 1) := by decide +kernel
theorem dL_law_147 : decode cL_law 147 = .ok (.iaload, 1) := by decide +kernel
theorem dL_law_148 : decode cL_law 148 = .ok (.invokevirtual 13, 3) := by decide +kernel
theorem dL_law_151 : decode cL_law 151 = .ok (.aload_n 2, 1) := by decide +kernel
theorem dL_law_152 : decode cL_law 152 = .ok (.aload_n 0, 1) := by decide +kernel
theorem dL_law_153 : decode cL_law 153 = .ok (.iload_n 3, 1) := by decide +kernel
theorem dL_law_154 : decode cL_law 154 = .ok (.iconst 1, 1) := by decide +kernel
theorem dL_law_155 : decode cL_law 155 = .ok (.iadd, 1) := by decide +kernel
theorem dL_law_156 : decode cL_law 156 = .ok (.iaload, 1) := by decide +kernel
theorem dL_law_157 : decode cL_law 157 = .ok (.aload_n 0, 1) := by decide +kernel
theorem dL_law_158 : decode cL_law 158 = .ok (.iload_n 3, 1) := by decide +kernel
theorem dL_law_159 : decode cL_law 159 = .ok (.iconst 2, 1) := by decide +kernel
theorem dL_law_160 : decode cL_law 160 = .ok (.iadd, 1) := by decide +kernel
theorem dL_law_161 : decode cL_law 161 = .ok (.iaload, 1) := by decide +kernel
theorem dL_law_162 : decode cL_law 162 = .ok (.aload_n 0, 1) := by decide +kernel
theorem dL_law_163 : decode cL_law 163 = .ok (.iload_n 3, 1) := by decide +kernel
theorem dL_law_164 : decode cL_law 164 = .ok (.iconst 3, 1) := by decide +kernel
theorem dL_law_165 : decode cL_law 165 = .ok (.iadd, 1) := by decide +kernel
theorem dL_law_166 : decode cL_law 166 = .ok (.iaload, 1) := by decide +kernel
theorem dL_law_167 : decode cL_law 167 = .ok (.invokevirtual 17, 3) := by decide +kernel
theorem dL_law_170 : decode cL_law 170 = .ok (.if_icmp .eq 653, 3) := by decide +kernel
theorem dL_law_173 : decode cL_law 173 = .ok (.iconst 0, 1) := by decide +kernel
theorem dL_law_174 : decode cL_law 174 = .ok (.ireturn, 1) := by decide +kernel
theorem dL_law_175 : decode cL_law 175 = .ok (.aload_n 1, 1) := by decide +kernel
theorem dL_law_176 : decode cL_law 176 = .ok (.aload_n 0, 1) := by decide +kernel
theorem dL_law_177 : decode cL_law 177 = .ok (.iload_n 3, 1) := by decide +kernel
theorem dL_law_178 : decode cL_law 178 = .ok (.iconst 1, 1) := by decide +kernel
theorem dL_law_179 : decode cL_law 179 = .ok (.iadd, 1) := by decide +kernel
theorem dL_law_180 : decode cL_law 180 = .ok (.iaload, 1) := by decide +kernel
theorem dL_law_181 : decode cL_law 181 = .ok (.aload_n 0, 1) := by decide +kernel
theorem dL_law_182 : decode cL_law 182 = .ok (.iload_n 3, 1) := by decide +kernel
theorem dL_law_183 : decode cL_law 183 = .ok (.iconst 2, 1) := by decide +kernel
theorem dL_law_184 : decode cL_law 184 = .ok (.iadd, 1) := by decide +kernel
theorem dL_law_185 : decode cL_law 185 = .ok (.iaload, 1) := by decide +kernel
theorem dL_law_186 : decode cL_law 186 = .ok (.aload_n 0, 1) := by decide +kernel
theorem dL_law_187 : decode cL_law 187 = .ok (.iload_n 3, 1) := by decide +kernel
theorem dL_law_188 : decode cL_law 188 = .ok (.iconst 3, 1) := by decide +kernel
theorem dL_law_189 : decode cL_law 189 = .ok (.iadd, 1) := by decide +kernel
theorem dL_law_190 : decode cL_law 190 = .ok (.iaload, 1) := by decide +kernel
theorem dL_law_191 : decode cL_law 191 = .ok (.ifCond .eq 7, 3) := by decide +kernel
theorem dL_law_194 : decode cL_law 194 = .ok (.iconst 1, 1) := by decide +kernel
theorem dL_law_195 : decode cL_law 195 = .ok (.goto 4, 3) := by decide +kernel
theorem dL_law_198 : decode cL_law 198 = .ok (.iconst 0, 1) := by decide +kernel
theorem dL_law_199 : decode cL_law 199 = .ok (.invokevirtual 18, 3) := by decide +kernel
theorem dL_law_202 : decode cL_law 202 = .ok (.aload_n 2, 1) := by decide +kernel
theorem dL_law_203 : decode cL_law 203 = .ok (.aload_n 0, 1) := by decide +kernel
theorem dL_law_204 : decode cL_law 204 = .ok (.iload_n 3, 1) := by decide +kernel
theorem dL_law_205 : decode cL_law 205 = .ok (.iconst 1, 1) := by decide +kernel
theorem dL_law_206 : decode cL_law 206 = .ok (.iadd, 1) := by decide +kernel
theorem dL_law_207 : decode cL_law 207 = .ok (.iaload, 1) := by decide +kernel
theorem dL_law_208 : decode cL_law 208 = .ok (.aload_n 0, 1) := by decide +kernel
theorem dL_law_209 : decode cL_law 209 = .ok (.iload_n 3, 1) := by decide +kernel
theorem dL_law_210 : decode cL_law 210 = .ok (.iconst 2, 1) := by decide +kernel
theorem dL_law_211 : decode cL_law 211 = .ok (.iadd, 1) := by decide +kernel
theorem dL_law_212 : decode cL_law 212 = .ok (.iaload, 1) := by decide +kernel
theorem dL_law_213 : decode cL_law 213 = .ok (.aload_n 0, 1) := by decide +kernel
theorem dL_law_214 : decode cL_law 214 = .ok (.iload_n 3, 1) := by decide +kernel
theorem dL_law_215 : decode cL_law 215 = .ok (.iconst 3, 1) := by decide +kernel
theorem dL_law_216 : decode cL_law 216 = .ok (.iadd, 1) := by decide +kernel
theorem dL_law_217 : decode cL_law 217 = .ok (.iaload, 1) := by decide +kernel
theorem dL_law_218 : decode cL_law 218 = .ok (.ifCond .eq 7, 3) := by decide +kernel
theorem dL_law_221 : decode cL_law 221 = .ok (.iconst 1, 1) := by decide +kernel
theorem dL_law_222 : decode cL_law 222 = .ok (.goto 4, 3) := by decide +kernel
theorem dL_law_225 : decode cL_law 225 = .ok (.iconst 0, 1) := by decide +kernel
theorem dL_law_226 : decode cL_law 226 = .ok (.invokevirtual 22, 3) := by decide +kernel
theorem dL_law_229 : decode cL_law 229 = .ok (.if_icmp .eq 594, 3) := by decide +kernel
theorem dL_law_232 : decode cL_law 232 = .ok (.iconst 0, 1) := by decide +kernel
theorem dL_law_233 : decode cL_law 233 = .ok (.ireturn, 1) := by decide +kernel
theorem dL_law_234 : decode cL_law 234 = .ok (.aload_n 1, 1) := by decide +kernel
theorem dL_law_235 : decode cL_law 235 = .ok (.aload_n 0, 1) := by decide +kernel
theorem dL_law_236 : decode cL_law 236 = .ok (.iload_n 3, 1) := by decide +kernel
theorem dL_law_237 : decode cL_law 237 = .ok (.iconst 1, 1) := by decide +kernel
theorem dL_law_238 : decode cL_law 238 = .ok (.iadd, 1) := by decide +kernel
theorem dL_law_239 : decode cL_law 239 = .ok (.iaload, 1) := by decide +kernel
theorem dL_law_240 : decode cL_law 240 = .ok (.aload_n 0, 1) := by decide +kernel
theorem dL_law_241 : decode cL_law 241 = .ok (.iload_n 3, 1) := by decide +kernel
theorem dL_law_242 : decode cL_law 242 = .ok (.iconst 2, 1) := by decide +kernel
theorem dL_law_243 : decode cL_law 243 = .ok (.iadd, 1) := by decide +kernel
theorem dL_law_244 : decode cL_law 244 = .ok (.iaload, 1) := by decide +kernel
theorem dL_law_245 : decode cL_law 245 = .ok (.aload_n 0, 1) := by decide +kernel
theorem dL_law_246 : decode cL_law 246 = .ok (.iload_n 3, 1) := by decide +kernel
theorem dL_law_247 : decode cL_law 247 = .ok (.iconst 3, 1) := by decide +kernel
theorem dL_law_248 : decode cL_law 248 = .ok (.iadd, 1) := by decide +kernel
theorem dL_law_249 : decode cL_law 249 = .ok (.iaload, 1) := by decide +kernel
theorem dL_law_250 : decode cL_law 250 = .ok (.invokevirtual 23, 3) := by decide +kernel
theorem dL_law_253 : decode cL_law 253 = .ok (.aload_n 2, 1) := by decide +kernel
theorem dL_law_254 : decode cL_law 254 = .ok (.aload_n 0, 1) := by decide +kernel
theorem dL_law_255 : decode cL_law 255 = .ok (.iload_n 3, 1) := by decide +kernel
theorem dL_law_256 : decode cL_law 256 = .ok (.iconst 1, 1) := by decide +kernel
theorem dL_law_257 : decode cL_law 257 = .ok (.iadd, 1) := by decide +kernel
theorem dL_law_258 : decode cL_law 258 = .ok (.iaload, 1) := by decide +kernel
theorem dL_law_259 : decode cL_law 259 = .ok (.aload_n 0, 1) := by decide +kernel
theorem dL_law_260 : decode cL_law 260 = .ok (.iload_n 3, 1) := by decide +kernel
theorem dL_law_261 : decode cL_law 261 = .ok (.iconst 2, 1) := by decide +kernel
theorem dL_law_262 : decode cL_law 262 = .ok (.iadd, 1) := by decide +kernel
theorem dL_law_263 : decode cL_law 263 = .ok (.iaload, 1) := by decide +kernel
theorem dL_law_264 : decode cL_law 264 = .ok (.aload_n 0, 1) := by decide +kernel
theorem dL_law_265 : decode cL_law 265 = .ok (.iload_n 3, 1) := by decide +kernel
theorem dL_law_266 : decode cL_law 266 = .ok (.iconst 3, 1) := by decide +kernel
theorem dL_law_267 : decode cL_law 267 = .ok (.iadd, 1) := by decide +kernel
theorem dL_law_268 : decode cL_law 268 = .ok (.iaload, 1) := by decide +kernel
theorem dL_law_269 : decode cL_law 269 = .ok (.invokevirtual 26, 3) := by decide +kernel
theorem dL_law_272 : decode cL_law 272 = .ok (.if_icmp .eq 551, 3) := by decide +kernel
theorem dL_law_275 : decode cL_law 275 = .ok (.iconst 0, 1) := by decide +kernel
theorem dL_law_276 : decode cL_law 276 = .ok (.ireturn, 1) := by decide +kernel
theorem dL_law_277 : decode cL_law 277 = .ok (.aload_n 1, 1) := by decide +kernel
theorem dL_law_278 : decode cL_law 278 = .ok (.aload_n 0, 1) := by decide +kernel
theorem dL_law_279 : decode cL_law 279 = .ok (.iload_n 3, 1) := by decide +kernel
theorem dL_law_280 : decode cL_law 280 = .ok (.iconst 1, 1) := by decide +kernel
theorem dL_law_281 : decode cL_law 281 = .ok (.iadd, 1) := by decide +kernel
theorem dL_law_282 : decode cL_law 282 = .ok (.iaload, 1) := by decide +kernel
theorem dL_law_283 : decode cL_law 283 = .ok (.aload_n 0, 1) := by decide +kernel
theorem dL_law_284 : decode cL_law 284 = .ok (.iload_n 3, 1) := by decide +kernel
theorem dL_law_285 : decode cL_law 285 = .ok (.iconst 2, 1) := by decide +kernel
theorem dL_law_286 : decode cL_law 286 = .ok (.iadd, 1) := by decide +kernel
theorem dL_law_287 : decode cL_law 287 = .ok (.iaload, 1) := by decide +kernel
theorem dL_law_288 : decode cL_law 288 = .ok (.aload_n 0, 1) := by decide +kernel
theorem dL_law_289 : decode cL_law 289 = .ok (.iload_n 3, 1) := by decide +kernel
theorem dL_law_290 : decode cL_law 290 = .ok (.iconst 3, 1) := by decide +kernel
theorem dL_law_291 : decode cL_law 291 = .ok (.iadd, 1) := by decide +kernel
theorem dL_law_292 : decode cL_law 292 = .ok (.iaload, 1) := by decide +kernel
theorem dL_law_293 : decode cL_law 293 = .ok (.aload_n 0, 1) := by decide +kernel
theorem dL_law_294 : decode cL_law 294 = .ok (.iload_n 3, 1) := by decide +kernel
theorem dL_law_295 : decode cL_law 295 = .ok (.iconst 4, 1) := by decide +kernel
theorem dL_law_296 : decode cL_law 296 = .ok (.iadd, 1) := by decide +kernel
theorem dL_law_297 : decode cL_law 297 = .ok (.iaload, 1) := by decide +kernel
theorem dL_law_298 : decode cL_law 298 = .ok (.aload_n 0, 1) := by decide +kernel
theorem dL_law_299 : decode cL_law 299 = .ok (.iload_n 3, 1) := by decide +kernel
theorem dL_law_300 : decode cL_law 300 = .ok (.iconst 5, 1) := by decide +kernel
theorem dL_law_301 : decode cL_law 301 = .ok (.iadd, 1) := by decide +kernel
theorem dL_law_302 : decode cL_law 302 = .ok (.iaload, 1) := by decide +kernel
theorem dL_law_303 : decode cL_law 303 = .ok (.aload_n 0, 1) := by decide +kernel
theorem dL_law_304 : decode cL_law 304 = .ok (.iload_n 3, 1) := by decide +kernel
theorem dL_law_305 : decode cL_law 305 = .ok (.bipush 6, 2) := by decide +kernel
theorem dL_law_307 : decode cL_law 307 = .ok (.iadd, 1) := by decide +kernel
theorem dL_law_308 : decode cL_law 308 = .ok (.iaload, 1) := by decide +kernel
theorem dL_law_309 : decode cL_law 309 = .ok (.invokevirtual 27, 3) := by decide +kernel
theorem dL_law_312 : decode cL_law 312 = .ok (.aload_n 2, 1) := by decide +kernel
theorem dL_law_313 : decode cL_law 313 = .ok (.aload_n 0, 1) := by decide +kernel
theorem dL_law_314 : decode cL_law 314 = .ok (.iload_n 3, 1) := by decide +kernel
theorem dL_law_315 : decode cL_law 315 = .ok (.iconst 1, 1) := by decide +kernel
theorem dL_law_316 : decode cL_law 316 = .ok (.iadd, 1) := by decide +kernel
theorem dL_law_317 : decode cL_law 317 = .ok (.iaload, 1) := by decide +kernel
theorem dL_law_318 : decode cL_law 318 = .ok (.aload_n 0, 1) := by decide +kernel
theorem dL_law_319 : decode cL_law 319 = .ok (.iload_n 3, 1) := by decide +kernel
theorem dL_law_320 : decode cL_law 320 = .ok (.iconst 2, 1) := by decide +kernel
theorem dL_law_321 : decode cL_law 321 = .ok (.iadd, 1) := by decide +kernel
theorem dL_law_322 : decode cL_law 322 = .ok (.iaload, 1) := by decide +kernel
theorem dL_law_323 : decode cL_law 323 = .ok (.aload_n 0, 1) := by decide +kernel
theorem dL_law_324 : decode cL_law 324 = .ok (.iload_n 3, 1) := by decide +kernel
theorem dL_law_325 : decode cL_law 325 = .ok (.iconst 3, 1) := by decide +kernel
theorem dL_law_326 : decode cL_law 326 = .ok (.iadd, 1) := by decide +kernel
theorem dL_law_327 : decode cL_law 327 = .ok (.iaload, 1) := by decide +kernel
theorem dL_law_328 : decode cL_law 328 = .ok (.aload_n 0, 1) := by decide +kernel
theorem dL_law_329 : decode cL_law 329 = .ok (.iload_n 3, 1) := by decide +kernel
theorem dL_law_330 : decode cL_law 330 = .ok (.iconst 4, 1) := by decide +kernel
theorem dL_law_331 : decode cL_law 331 = .ok (.iadd, 1) := by decide +kernel
theorem dL_law_332 : decode cL_law 332 = .ok (.iaload, 1) := by decide +kernel
theorem dL_law_333 : decode cL_law 333 = .ok (.aload_n 0, 1) := by decide +kernel
theorem dL_law_334 : decode cL_law 334 = .ok (.iload_n 3, 1) := by decide +kernel
theorem dL_law_335 : decode cL_law 335 = .ok (.iconst 5, 1) := by decide +kernel
theorem dL_law_336 : decode cL_law 336 = .ok (.iadd, 1) := by decide +kernel
theorem dL_law_337 : decode cL_law 337 = .ok (.iaload, 1) := by decide +kernel
theorem dL_law_338 : decode cL_law 338 = .ok (.aload_n 0, 1) := by decide +kernel
theorem dL_law_339 : decode cL_law 339 = .ok (.iload_n 3, 1) := by decide +kernel
theorem dL_law_340 : decode cL_law 340 = .ok (.bipush 6, 2) := by decide +kernel
theorem dL_law_342 : decode cL_law 342 = .ok (.iadd, 1) := by decide +kernel
theorem dL_law_343 : decode cL_law 343 = .ok (.iaload, 1) := by decide +kernel
theorem dL_law_344 : decode cL_law 344 = .ok (.invokevirtual 31, 3) := by decide +kernel
theorem dL_law_347 : decode cL_law 347 = .ok (.if_icmp .eq 476, 3) := by decide +kernel
theorem dL_law_350 : decode cL_law 350 = .ok (.iconst 0, 1) := by decide +kernel
theorem dL_law_351 : decode cL_law 351 = .ok (.ireturn, 1) := by decide +kernel
theorem dL_law_352 : decode cL_law 352 = .ok (.aload_n 1, 1) := by decide +kernel
theorem dL_law_353 : decode cL_law 353 = .ok (.invokevirtual 32, 3) := by decide +kernel
theorem dL_law_356 : decode cL_law 356 = .ok (.aload_n 2, 1) := by decide +kernel
theorem dL_law_357 : decode cL_law 357 = .ok (.invokevirtual 36, 3) := by decide +kernel
theorem dL_law_360 : decode cL_law 360 = .ok (.if_icmp .eq 463, 3) := by decide +kernel
theorem dL_law_363 : decode cL_law 363 = .ok (.iconst 0, 1) := by decide +kernel
theorem dL_law_364 : decode cL_law 364 = .ok (.ireturn, 1) := by decide +kernel
theorem dL_law_365 : decode cL_law 365 = .ok (.aload_n 1, 1) := by decide +kernel
theorem dL_law_366 : decode cL_law 366 = .ok (.aload_n 0, 1) := by decide +kernel
theorem dL_law_367 : decode cL_law 367 = .ok (.iload_n 3, 1) := by decide +kernel
theorem dL_law_368 : decode cL_law 368 = .ok (.iconst 1, 1) := by decide +kernel
theorem dL_law_369 : decode cL_law 369 = .ok (.iadd, 1) := by decide +kernel
theorem dL_law_370 : decode cL_law 370 = .ok (.iaload, 1) := by decide +kernel
theorem dL_law_371 : decode cL_law 371 = .ok (.aload_n 0, 1) := by decide +kernel
theorem dL_law_372 : decode cL_law 372 = .ok (.iload_n 3, 1) := by decide +kernel
theorem dL_law_373 : decode cL_law 373 = .ok (.iconst 2, 1) := by decide +kernel
theorem dL_law_374 : decode cL_law 374 = .ok (.iadd, 1) := by decide +kernel
theorem dL_law_375 : decode cL_law 375 = .ok (.iaload, 1) := by decide +kernel
theorem dL_law_376 : decode cL_law 376 = .ok (.invokevirtual 37, 3) := by decide +kernel
theorem dL_law_379 : decode cL_law 379 = .ok (.aload_n 2, 1) := by decide +kernel
theorem dL_law_380 : decode cL_law 380 = .ok (.aload_n 0, 1) := by decide +kernel
theorem dL_law_381 : decode cL_law 381 = .ok (.iload_n 3, 1) := by decide +kernel
theorem dL_law_382 : decode cL_law 382 = .ok (.iconst 1, 1) := by decide +kernel
theorem dL_law_383 : decode cL_law 383 = .ok (.iadd, 1) := by decide +kernel
theorem dL_law_384 : decode cL_law 384 = .ok (.iaload, 1) := by decide +kernel
theorem dL_law_385 : decode cL_law 385 = .ok (.aload_n 0, 1) := by decide +kernel
theorem dL_law_386 : decode cL_law 386 = .ok (.iload_n 3, 1) := by decide +kernel
theorem dL_law_387 : decode cL_law 387 = .ok (.iconst 2, 1) := by decide +kernel
theorem dL_law_388 : decode cL_law 388 = .ok (.iadd, 1) := by decide +kernel
theorem dL_law_389 : decode cL_law 389 = .ok (.iaload, 1) := by decide +kernel
theorem dL_law_390 : decode cL_law 390 = .ok (.invokevirtual 41, 3) := by decide +kernel
theorem dL_law_393 : decode cL_law 393 = .ok (.if_icmp .eq 430, 3) := by decide +kernel
theorem dL_law_396 : decode cL_law 396 = .ok (.iconst 0, 1) := by decide +kernel
theorem dL_law_397 : decode cL_law 397 = .ok (.ireturn, 1) := by decide +kernel
theorem dL_law_398 : decode cL_law 398 = .ok (.aload_n 1, 1) := by decide +kernel
theorem dL_law_399 : decode cL_law 399 = .ok (.aload_n 0, 1) := by decide +kernel
theorem dL_law_400 : decode cL_law 400 = .ok (.iload_n 3, 1) := by decide +kernel
theorem dL_law_401 : decode cL_law 401 = .ok (.iconst 1, 1) := by decide +kernel
theorem dL_law_402 : decode cL_law 402 = .ok (.iadd, 1) := by decide +kernel
theorem dL_law_403 : decode cL_law 403 = .ok (.iaload, 1) := by decide +kernel
theorem dL_law_404 : decode cL_law 404 = .ok (.aload_n 0, 1) := by decide +kernel
theorem dL_law_405 : decode cL_law 405 = .ok (.iload_n 3, 1) := by decide +kernel
theorem dL_law_406 : decode cL_law 406 = .ok (.iconst 2, 1) := by decide +kernel
theorem dL_law_407 : decode cL_law 407 = .ok (.iadd, 1) := by decide +kernel
theorem dL_law_408 : decode cL_law 408 = .ok (.iaload, 1) := by decide +kernel
theorem dL_law_409 : decode cL_law 409 = .ok (.aload_n 0, 1) := by decide +kernel
theorem dL_law_410 : decode cL_law 410 = .ok (.iload_n 3, 1) := by decide +kernel
theorem dL_law_411 : decode cL_law 411 = .ok (.iconst 3, 1) := by decide +kernel
theorem dL_law_412 : decode cL_law 412 = .ok (.iadd, 1) := by decide +kernel
theorem dL_law_413 : decode cL_law 413 = .ok (.iaload, 1) := by decide +kernel
theorem dL_law_414 : decode cL_law 414 = .ok (.invokevirtual 42, 3) := by decide +kernel
theorem dL_law_417 : decode cL_law 417 = .ok (.aload_n 2, 1) := by decide +kernel
theorem dL_law_418 : decode cL_law 418 = .ok (.aload_n 0, 1) := by decide +kernel
theorem dL_law_419 : decode cL_law 419 = .ok (.iload_n 3, 1) := by decide +kernel
theorem dL_law_420 : decode cL_law 420 = .ok (.iconst 1, 1) := by decide +kernel
theorem dL_law_421 : decode cL_law 421 = .ok (.iadd, 1) := by decide +kernel
theorem dL_law_422 : decode cL_law 422 = .ok (.iaload, 1) := by decide +kernel
theorem dL_law_423 : decode cL_law 423 = .ok (.aload_n 0, 1) := by decide +kernel
theorem dL_law_424 : decode cL_law 424 = .ok (.iload_n 3, 1) := by decide +kernel
theorem dL_law_425 : decode cL_law 425 = .ok (.iconst 2, 1) := by decide +kernel
theorem dL_law_426 : decode cL_law 426 = .ok (.iadd, 1) := by decide +kernel
theorem dL_law_427 : decode cL_law 427 = .ok (.iaload, 1) := by decide +kernel
theorem dL_law_428 : decode cL_law 428 = .ok (.aload_n 0, 1) := by decide +kernel
theorem dL_law_429 : decode cL_law 429 = .ok (.iload_n 3, 1) := by decide +kernel
theorem dL_law_430 : decode cL_law 430 = .ok (.iconst 3, 1) := by decide +kernel
theorem dL_law_431 : decode cL_law 431 = .ok (.iadd, 1) := by decide +kernel
theorem dL_law_432 : decode cL_law 432 = .ok (.iaload, 1) := by decide +kernel
theorem dL_law_433 : decode cL_law 433 = .ok (.invokevirtual 45, 3) := by decide +kernel
theorem dL_law_436 : decode cL_law 436 = .ok (.if_icmp .eq 387, 3) := by decide +kernel
theorem dL_law_439 : decode cL_law 439 = .ok (.iconst 0, 1) := by decide +kernel
theorem dL_law_440 : decode cL_law 440 = .ok (.ireturn, 1) := by decide +kernel
theorem dL_law_441 : decode cL_law 441 = .ok (.aload_n 1, 1) := by decide +kernel
theorem dL_law_442 : decode cL_law 442 = .ok (.aload_n 0, 1) := by decide +kernel
theorem dL_law_443 : decode cL_law 443 = .ok (.iload_n 3, 1) := by decide +kernel
theorem dL_law_444 : decode cL_law 444 = .ok (.iconst 1, 1) := by decide +kernel
theorem dL_law_445 : decode cL_law 445 = .ok (.iadd, 1) := by decide +kernel
theorem dL_law_446 : decode cL_law 446 = .ok (.iaload, 1) := by decide +kernel
theorem dL_law_447 : decode cL_law 447 = .ok (.invokevirtual 46, 3) := by decide +kernel
theorem dL_law_450 : decode cL_law 450 = .ok (.aload_n 2, 1) := by decide +kernel
theorem dL_law_451 : decode cL_law 451 = .ok (.aload_n 0, 1) := by decide +kernel
theorem dL_law_452 : decode cL_law 452 = .ok (.iload_n 3, 1) := by decide +kernel
theorem dL_law_453 : decode cL_law 453 = .ok (.iconst 1, 1) := by decide +kernel
theorem dL_law_454 : decode cL_law 454 = .ok (.iadd, 1) := by decide +kernel
theorem dL_law_455 : decode cL_law 455 = .ok (.iaload, 1) := by decide +kernel
theorem dL_law_456 : decode cL_law 456 = .ok (.invokevirtual 50, 3) := by decide +kernel
theorem dL_law_459 : decode cL_law 459 = .ok (.if_icmp .eq 364, 3) := by decide +kernel
theorem dL_law_462 : decode cL_law 462 = .ok (.iconst 0, 1) := by decide +kernel
theorem dL_law_463 : decode cL_law 463 = .ok (.ireturn, 1) := by decide +kernel
theorem dL_law_464 : decode cL_law 464 = .ok (.aload_n 1, 1) := by decide +kernel
theorem dL_law_465 : decode cL_law 465 = .ok (.aload_n 0, 1) := by decide +kernel
theorem dL_law_466 : decode cL_law 466 = .ok (.iload_n 3, 1) := by decide +kernel
theorem dL_law_467 : decode cL_law 467 = .ok (.iconst 1, 1) := by decide +kernel
theorem dL_law_468 : decode cL_law 468 = .ok (.iadd, 1) := by decide +kernel
theorem dL_law_469 : decode cL_law 469 = .ok (.iaload, 1) := by decide +kernel
theorem dL_law_470 : decode cL_law 470 = .ok (.aload_n 0, 1) := by decide +kernel
theorem dL_law_471 : decode cL_law 471 = .ok (.iload_n 3, 1) := by decide +kernel
theorem dL_law_472 : decode cL_law 472 = .ok (.iconst 2, 1) := by decide +kernel
theorem dL_law_473 : decode cL_law 473 = .ok (.iadd, 1) := by decide +kernel
theorem dL_law_474 : decode cL_law 474 = .ok (.iaload, 1) := by decide +kernel
theorem dL_law_475 : decode cL_law 475 = .ok (.invokevirtual 51, 3) := by decide +kernel
theorem dL_law_478 : decode cL_law 478 = .ok (.aload_n 2, 1) := by decide +kernel
theorem dL_law_479 : decode cL_law 479 = .ok (.aload_n 0, 1) := by decide +kernel
theorem dL_law_480 : decode cL_law 480 = .ok (.iload_n 3, 1) := by decide +kernel
theorem dL_law_481 : decode cL_law 481 = .ok (.iconst 1, 1) := by decide +kernel
theorem dL_law_482 : decode cL_law 482 = .ok (.iadd, 1) := by decide +kernel
theorem dL_law_483 : decode cL_law 483 = .ok (.iaload, 1) := by decide +kernel
theorem dL_law_484 : decode cL_law 484 = .ok (.aload_n 0, 1) := by decide +kernel
theorem dL_law_485 : decode cL_law 485 = .ok (.iload_n 3, 1) := by decide +kernel
theorem dL_law_486 : decode cL_law 486 = .ok (.iconst 2, 1) := by decide +kernel
theorem dL_law_487 : decode cL_law 487 = .ok (.iadd, 1) := by decide +kernel
theorem dL_law_488 : decode cL_law 488 = .ok (.iaload, 1) := by decide +kernel
theorem dL_law_489 : decode cL_law 489 = .ok (.invokevirtual 54, 3) := by decide +kernel
theorem dL_law_492 : decode cL_law 492 = .ok (.if_icmp .eq 331, 3) := by decide +kernel
theorem dL_law_495 : decode cL_law 495 = .ok (.iconst 0, 1) := by decide +kernel
theorem dL_law_496 : decode cL_law 496 = .ok (.ireturn, 1) := by decide +kernel
theorem dL_law_497 : decode cL_law 497 = .ok (.aload_n 1, 1) := by decide +kernel
theorem dL_law_498 : decode cL_law 498 = .ok (.aload_n 0, 1) := by decide +kernel
theorem dL_law_499 : decode cL_law 499 = .ok (.iload_n 3, 1) := by decide +kernel
theorem dL_law_500 : decode cL_law 500 = .ok (.iconst 1, 1) := by decide +kernel
theorem dL_law_501 : decode cL_law 501 = .ok (.iadd, 1) := by decide +kernel
theorem dL_law_502 : decode cL_law 502 = .ok (.iaload, 1) := by decide +kernel
theorem dL_law_503 : decode cL_law 503 = .ok (.aload_n 0, 1) := by decide +kernel
theorem dL_law_504 : decode cL_law 504 = .ok (.iload_n 3, 1) := by decide +kernel
theorem dL_law_505 : decode cL_law 505 = .ok (.iconst 2, 1) := by decide +kernel
theorem dL_law_506 : decode cL_law 506 = .ok (.iadd, 1) := by decide +kernel
theorem dL_law_507 : decode cL_law 507 = .ok (.iaload, 1) := by decide +kernel
theorem dL_law_508 : decode cL_law 508 = .ok (.invokevirtual 55, 3) := by decide +kernel
theorem dL_law_511 : decode cL_law 511 = .ok (.aload_n 2, 1) := by decide +kernel
theorem dL_law_512 : decode cL_law 512 = .ok (.aload_n 0, 1) := by decide +kernel
theorem dL_law_513 : decode cL_law 513 = .ok (.iload_n 3, 1) := by decide +kernel
theorem dL_law_514 : decode cL_law 514 = .ok (.iconst 1, 1) := by decide +kernel
theorem dL_law_515 : decode cL_law 515 = .ok (.iadd, 1) := by decide +kernel
theorem dL_law_516 : decode cL_law 516 = .ok (.iaload, 1) := by decide +kernel
theorem dL_law_517 : decode cL_law 517 = .ok (.aload_n 0, 1) := by decide +kernel
theorem dL_law_518 : decode cL_law 518 = .ok (.iload_n 3, 1) := by decide +kernel
theorem dL_law_519 : decode cL_law 519 = .ok (.iconst 2, 1) := by decide +kernel
theorem dL_law_520 : decode cL_law 520 = .ok (.iadd, 1) := by decide +kernel
theorem dL_law_521 : decode cL_law 521 = .ok (.iaload, 1) := by decide +kernel
theorem dL_law_522 : decode cL_law 522 = .ok (.invokevirtual 58, 3) := by decide +kernel
theorem dL_law_525 : decode cL_law 525 = .ok (.if_icmp .eq 298, 3) := by decide +kernel
theorem dL_law_528 : decode cL_law 528 = .ok (.iconst 0, 1) := by decide +kernel
theorem dL_law_529 : decode cL_law 529 = .ok (.ireturn, 1) := by decide +kernel
theorem dL_law_530 : decode cL_law 530 = .ok (.aload_n 1, 1) := by decide +kernel
theorem dL_law_531 : decode cL_law 531 = .ok (.aload_n 0, 1) := by decide +kernel
theorem dL_law_532 : decode cL_law 532 = .ok (.iload_n 3, 1) := by decide +kernel
theorem dL_law_533 : decode cL_law 533 = .ok (.iconst 1, 1) := by decide +kernel
theorem dL_law_534 : decode cL_law 534 = .ok (.iadd, 1) := by decide +kernel
theorem dL_law_535 : decode cL_law 535 = .ok (.iaload, 1) := by decide +kernel
theorem dL_law_536 : decode cL_law 536 = .ok (.aload_n 0, 1) := by decide +kernel
theorem dL_law_537 : decode cL_law 537 = .ok (.iload_n 3, 1) := by decide +kernel
theorem dL_law_538 : decode cL_law 538 = .ok (.iconst 2, 1) := by decide +kernel
theorem dL_law_539 : decode cL_law 539 = .ok (.iadd, 1) := by decide +kernel
theorem dL_law_540 : decode cL_law 540 = .ok (.iaload, 1) := by decide +kernel
theorem dL_law_541 : decode cL_law 541 = .ok (.invokevirtual 59, 3) := by decide +kernel
theorem dL_law_544 : decode cL_law 544 = .ok (.aload_n 2, 1) := by decide +kernel
theorem dL_law_545 : decode cL_law 545 = .ok (.aload_n 0, 1) := by decide +kernel
theorem dL_law_546 : decode cL_law 546 = .ok (.iload_n 3, 1) := by decide +kernel
theorem dL_law_547 : decode cL_law 547 = .ok (.iconst 1, 1) := by decide +kernel
theorem dL_law_548 : decode cL_law 548 = .ok (.iadd, 1) := by decide +kernel
theorem dL_law_549 : decode cL_law 549 = .ok (.iaload, 1) := by decide +kernel
theorem dL_law_550 : decode cL_law 550 = .ok (.aload_n 0, 1) := by decide +kernel
theorem dL_law_551 : decode cL_law 551 = .ok (.iload_n 3, 1) := by decide +kernel
theorem dL_law_552 : decode cL_law 552 = .ok (.iconst 2, 1) := by decide +kernel
theorem dL_law_553 : decode cL_law 553 = .ok (.iadd, 1) := by decide +kernel
theorem dL_law_554 : decode cL_law 554 = .ok (.iaload, 1) := by decide +kernel
theorem dL_law_555 : decode cL_law 555 = .ok (.invokevirtual 62, 3) := by decide +kernel
theorem dL_law_558 : decode cL_law 558 = .ok (.if_icmp .eq 265, 3) := by decide +kernel
theorem dL_law_561 : decode cL_law 561 = .ok (.iconst 0, 1) := by decide +kernel
theorem dL_law_562 : decode cL_law 562 = .ok (.ireturn, 1) := by decide +kernel
theorem dL_law_563 : decode cL_law 563 = .ok (.aload_n 1, 1) := by decide +kernel
theorem dL_law_564 : decode cL_law 564 = .ok (.aload_n 0, 1) := by decide +kernel
theorem dL_law_565 : decode cL_law 565 = .ok (.iload_n 3, 1) := by decide +kernel
theorem dL_law_566 : decode cL_law 566 = .ok (.iconst 1, 1) := by decide +kernel
theorem dL_law_567 : decode cL_law 567 = .ok (.iadd, 1) := by decide +kernel
theorem dL_law_568 : decode cL_law 568 = .ok (.iaload, 1) := by decide +kernel
theorem dL_law_569 : decode cL_law 569 = .ok (.aload_n 0, 1) := by decide +kernel
theorem dL_law_570 : decode cL_law 570 = .ok (.iload_n 3, 1) := by decide +kernel
theorem dL_law_571 : decode cL_law 571 = .ok (.iconst 2, 1) := by decide +kernel
theorem dL_law_572 : decode cL_law 572 = .ok (.iadd, 1) := by decide +kernel
theorem dL_law_573 : decode cL_law 573 = .ok (.iaload, 1) := by decide +kernel
theorem dL_law_574 : decode cL_law 574 = .ok (.invokevirtual 63, 3) := by decide +kernel
theorem dL_law_577 : decode cL_law 577 = .ok (.aload_n 2, 1) := by decide +kernel
theorem dL_law_578 : decode cL_law 578 = .ok (.aload_n 0, 1) := by decide +kernel
theorem dL_law_579 : decode cL_law 579 = .ok (.iload_n 3, 1) := by decide +kernel
theorem dL_law_580 : decode cL_law 580 = .ok (.iconst 1, 1) := by decide +kernel
theorem dL_law_581 : decode cL_law 581 = .ok (.iadd, 1) := by decide +kernel
theorem dL_law_582 : decode cL_law 582 = .ok (.iaload, 1) := by decide +kernel
theorem dL_law_583 : decode cL_law 583 = .ok (.aload_n 0, 1) := by decide +kernel
theorem dL_law_584 : decode cL_law 584 = .ok (.iload_n 3, 1) := by decide +kernel
theorem dL_law_585 : decode cL_law 585 = .ok (.iconst 2, 1) := by decide +kernel
theorem dL_law_586 : decode cL_law 586 = .ok (.iadd, 1) := by decide +kernel
theorem dL_law_587 : decode cL_law 587 = .ok (.iaload, 1) := by decide +kernel
theorem dL_law_588 : decode cL_law 588 = .ok (.invokevirtual 66, 3) := by decide +kernel
theorem dL_law_591 : decode cL_law 591 = .ok (.if_icmp .eq 232, 3) := by decide +kernel
theorem dL_law_594 : decode cL_law 594 = .ok (.iconst 0, 1) := by decide +kernel
theorem dL_law_595 : decode cL_law 595 = .ok (.ireturn, 1) := by decide +kernel
theorem dL_law_596 : decode cL_law 596 = .ok (.aload_n 1, 1) := by decide +kernel
theorem dL_law_597 : decode cL_law 597 = .ok (.aload_n 0, 1) := by decide +kernel
theorem dL_law_598 : decode cL_law 598 = .ok (.iload_n 3, 1) := by decide +kernel
theorem dL_law_599 : decode cL_law 599 = .ok (.iconst 1, 1) := by decide +kernel
theorem dL_law_600 : decode cL_law 600 = .ok (.iadd, 1) := by decide +kernel
theorem dL_law_601 : decode cL_law 601 = .ok (.iaload, 1) := by decide +kernel
theorem dL_law_602 : decode cL_law 602 = .ok (.aload_n 0, 1) := by decide +kernel
theorem dL_law_603 : decode cL_law 603 = .ok (.iload_n 3, 1) := by decide +kernel
theorem dL_law_604 : decode cL_law 604 = .ok (.iconst 2, 1) := by decide +kernel
theorem dL_law_605 : decode cL_law 605 = .ok (.iadd, 1) := by decide +kernel
theorem dL_law_606 : decode cL_law 606 = .ok (.iaload, 1) := by decide +kernel
theorem dL_law_607 : decode cL_law 607 = .ok (.invokevirtual 67, 3) := by decide +kernel
theorem dL_law_610 : decode cL_law 610 = .ok (.aload_n 2, 1) := by decide +kernel
theorem dL_law_611 : decode cL_law 611 = .ok (.aload_n 0, 1) := by decide +kernel
theorem dL_law_612 : decode cL_law 612 = .ok (.iload_n 3, 1) := by decide +kernel
theorem dL_law_613 : decode cL_law 613 = .ok (.iconst 1, 1) := by decide +kernel
theorem dL_law_614 : decode cL_law 614 = .ok (.iadd, 1) := by decide +kernel
theorem dL_law_615 : decode cL_law 615 = .ok (.iaload, 1) := by decide +kernel
theorem dL_law_616 : decode cL_law 616 = .ok (.aload_n 0, 1) := by decide +kernel
theorem dL_law_617 : decode cL_law 617 = .ok (.iload_n 3, 1) := by decide +kernel
theorem dL_law_618 : decode cL_law 618 = .ok (.iconst 2, 1) := by decide +kernel
theorem dL_law_619 : decode cL_law 619 = .ok (.iadd, 1) := by decide +kernel
theorem dL_law_620 : decode cL_law 620 = .ok (.iaload, 1) := by decide +kernel
theorem dL_law_621 : decode cL_law 621 = .ok (.invokevirtual 70, 3) := by decide +kernel
theorem dL_law_624 : decode cL_law 624 = .ok (.if_icmp .eq 199, 3) := by decide +kernel
theorem dL_law_627 : decode cL_law 627 = .ok (.iconst 0, 1) := by decide +kernel
theorem dL_law_628 : decode cL_law 628 = .ok (.ireturn, 1) := by decide +kernel
theorem dL_law_629 : decode cL_law 629 = .ok (.aload_n 1, 1) := by decide +kernel
theorem dL_law_630 : decode cL_law 630 = .ok (.aload_n 0, 1) := by decide +kernel
theorem dL_law_631 : decode cL_law 631 = .ok (.iload_n 3, 1) := by decide +kernel
theorem dL_law_632 : decode cL_law 632 = .ok (.iconst 1, 1) := by decide +kernel
theorem dL_law_633 : decode cL_law 633 = .ok (.iadd, 1) := by decide +kernel
theorem dL_law_634 : decode cL_law 634 = .ok (.iaload, 1) := by decide +kernel
theorem dL_law_635 : decode cL_law 635 = .ok (.invokevirtual 71, 3) := by decide +kernel
theorem dL_law_638 : decode cL_law 638 = .ok (.aload_n 2, 1) := by decide +kernel
theorem dL_law_639 : decode cL_law 639 = .ok (.aload_n 0, 1) := by decide +kernel
theorem dL_law_640 : decode cL_law 640 = .ok (.iload_n 3, 1) := by decide +kernel
theorem dL_law_641 : decode cL_law 641 = .ok (.iconst 1, 1) := by decide +kernel
theorem dL_law_642 : decode cL_law 642 = .ok (.iadd, 1) := by decide +kernel
theorem dL_law_643 : decode cL_law 643 = .ok (.iaload, 1) := by decide +kernel
theorem dL_law_644 : decode cL_law 644 = .ok (.invokevirtual 74, 3) := by decide +kernel
theorem dL_law_647 : decode cL_law 647 = .ok (.if_icmp .eq 176, 3) := by decide +kernel
theorem dL_law_650 : decode cL_law 650 = .ok (.iconst 0, 1) := by decide +kernel
theorem dL_law_651 : decode cL_law 651 = .ok (.ireturn, 1) := by decide +kernel
theorem dL_law_652 : decode cL_law 652 = .ok (.aload_n 1, 1) := by decide +kernel
theorem dL_law_653 : decode cL_law 653 = .ok (.aload_n 0, 1) := by decide +kernel
theorem dL_law_654 : decode cL_law 654 = .ok (.iload_n 3, 1) := by decide +kernel
theorem dL_law_655 : decode cL_law 655 = .ok (.iconst 1, 1) := by decide +kernel
theorem dL_law_656 : decode cL_law 656 = .ok (.iadd, 1) := by decide +kernel
theorem dL_law_657 : decode cL_law 657 = .ok (.iaload, 1) := by decide +kernel
theorem dL_law_658 : decode cL_law 658 = .ok (.invokevirtual 75, 3) := by decide +kernel
theorem dL_law_661 : decode cL_law 661 = .ok (.aload_n 2, 1) := by decide +kernel
theorem dL_law_662 : decode cL_law 662 = .ok (.aload_n 0, 1) := by decide +kernel
theorem dL_law_663 : decode cL_law 663 = .ok (.iload_n 3, 1) := by decide +kernel
theorem dL_law_664 : decode cL_law 664 = .ok (.iconst 1, 1) := by decide +kernel
theorem dL_law_665 : decode cL_law 665 = .ok (.iadd, 1) := by decide +kernel
theorem dL_law_666 : decode cL_law 666 = .ok (.iaload, 1) := by decide +kernel
theorem dL_law_667 : decode cL_law 667 = .ok (.invokevirtual 78, 3) := by decide +kernel
theorem dL_law_670 : decode cL_law 670 = .ok (.if_icmp .eq 153, 3) := by decide +kernel
theorem dL_law_673 : decode cL_law 673 = .ok (.iconst 0, 1) := by decide +kernel
theorem dL_law_674 : decode cL_law 674 = .ok (.ireturn, 1) := by decide +kernel
theorem dL_law_675 : decode cL_law 675 = .ok (.aload_n 1, 1) := by decide +kernel
theorem dL_law_676 : decode cL_law 676 = .ok (.aload_n 0, 1) := by decide +kernel
theorem dL_law_677 : decode cL_law 677 = .ok (.iload_n 3, 1) := by decide +kernel
theorem dL_law_678 : decode cL_law 678 = .ok (.iconst 1, 1) := by decide +kernel
theorem dL_law_679 : decode cL_law 679 = .ok (.iadd, 1) := by decide +kernel
theorem dL_law_680 : decode cL_law 680 = .ok (.iaload, 1) := by decide +kernel
theorem dL_law_681 : decode cL_law 681 = .ok (.aload_n 0, 1) := by decide +kernel
theorem dL_law_682 : decode cL_law 682 = .ok (.iload_n 3, 1) := by decide +kernel
theorem dL_law_683 : decode cL_law 683 = .ok (.iconst 2, 1) := by decide +kernel
theorem dL_law_684 : decode cL_law 684 = .ok (.iadd, 1) := by decide +kernel
theorem dL_law_685 : decode cL_law 685 = .ok (.iaload, 1) := by decide +kernel
theorem dL_law_686 : decode cL_law 686 = .ok (.invokevirtual 79, 3) := by decide +kernel
theorem dL_law_689 : decode cL_law 689 = .ok (.aload_n 2, 1) := by decide +kernel
theorem dL_law_690 : decode cL_law 690 = .ok (.aload_n 0, 1) := by decide +kernel
theorem dL_law_691 : decode cL_law 691 = .ok (.iload_n 3, 1) := by decide +kernel
theorem dL_law_692 : decode cL_law 692 = .ok (.iconst 1, 1) := by decide +kernel
theorem dL_law_693 : decode cL_law 693 = .ok (.iadd, 1) := by decide +kernel
theorem dL_law_694 : decode cL_law 694 = .ok (.iaload, 1) := by decide +kernel
theorem dL_law_695 : decode cL_law 695 = .ok (.aload_n 0, 1) := by decide +kernel
theorem dL_law_696 : decode cL_law 696 = .ok (.iload_n 3, 1) := by decide +kernel
theorem dL_law_697 : decode cL_law 697 = .ok (.iconst 2, 1) := by decide +kernel
theorem dL_law_698 : decode cL_law 698 = .ok (.iadd, 1) := by decide +kernel
theorem dL_law_699 : decode cL_law 699 = .ok (.iaload, 1) := by decide +kernel
theorem dL_law_700 : decode cL_law 700 = .ok (.invokevirtual 82, 3) := by decide +kernel
theorem dL_law_703 : decode cL_law 703 = .ok (.if_icmp .eq 120, 3) := by decide +kernel
theorem dL_law_706 : decode cL_law 706 = .ok (.iconst 0, 1) := by decide +kernel
theorem dL_law_707 : decode cL_law 707 = .ok (.ireturn, 1) := by decide +kernel
theorem dL_law_708 : decode cL_law 708 = .ok (.aload_n 1, 1) := by decide +kernel
theorem dL_law_709 : decode cL_law 709 = .ok (.invokevirtual 83, 3) := by decide +kernel
theorem dL_law_712 : decode cL_law 712 = .ok (.aload_n 2, 1) := by decide +kernel
theorem dL_law_713 : decode cL_law 713 = .ok (.invokevirtual 86, 3) := by decide +kernel
theorem dL_law_716 : decode cL_law 716 = .ok (.if_icmp .eq 107, 3) := by decide +kernel
theorem dL_law_719 : decode cL_law 719 = .ok (.iconst 0, 1) := by decide +kernel
theorem dL_law_720 : decode cL_law 720 = .ok (.ireturn, 1) := by decide +kernel
theorem dL_law_721 : decode cL_law 721 = .ok (.aload_n 1, 1) := by decide +kernel
theorem dL_law_722 : decode cL_law 722 = .ok (.invokevirtual 87, 3) := by decide +kernel
theorem dL_law_725 : decode cL_law 725 = .ok (.aload_n 2, 1) := by decide +kernel
theorem dL_law_726 : decode cL_law 726 = .ok (.invokevirtual 90, 3) := by decide +kernel
theorem dL_law_729 : decode cL_law 729 = .ok (.if_icmp .eq 94, 3) := by decide +kernel
theorem dL_law_732 : decode cL_law 732 = .ok (.iconst 0, 1) := by decide +kernel
theorem dL_law_733 : decode cL_law 733 = .ok (.ireturn, 1) := by decide +kernel
theorem dL_law_734 : decode cL_law 734 = .ok (.aload_n 1, 1) := by decide +kernel
theorem dL_law_735 : decode cL_law 735 = .ok (.aload_n 0, 1) := by decide +kernel
theorem dL_law_736 : decode cL_law 736 = .ok (.iload_n 3, 1) := by decide +kernel
theorem dL_law_737 : decode cL_law 737 = .ok (.iconst 1, 1) := by decide +kernel
theorem dL_law_738 : decode cL_law 738 = .ok (.iadd, 1) := by decide +kernel
theorem dL_law_739 : decode cL_law 739 = .ok (.iaload, 1) := by decide +kernel
theorem dL_law_740 : decode cL_law 740 = .ok (.invokevirtual 91, 3) := by decide +kernel
theorem dL_law_743 : decode cL_law 743 = .ok (.aload_n 2, 1) := by decide +kernel
theorem dL_law_744 : decode cL_law 744 = .ok (.aload_n 0, 1) := by decide +kernel
theorem dL_law_745 : decode cL_law 745 = .ok (.iload_n 3, 1) := by decide +kernel
theorem dL_law_746 : decode cL_law 746 = .ok (.iconst 1, 1) := by decide +kernel
theorem dL_law_747 : decode cL_law 747 = .ok (.iadd, 1) := by decide +kernel
theorem dL_law_748 : decode cL_law 748 = .ok (.iaload, 1) := by decide +kernel
theorem dL_law_749 : decode cL_law 749 = .ok (.invokevirtual 94, 3) := by decide +kernel
theorem dL_law_752 : decode cL_law 752 = .ok (.if_icmp .eq 71, 3) := by decide +kernel
theorem dL_law_755 : decode cL_law 755 = .ok (.iconst 0, 1) := by decide +kernel
theorem dL_law_756 : decode cL_law 756 = .ok (.ireturn, 1) := by decide +kernel
theorem dL_law_757 : decode cL_law 757 = .ok (.aload_n 1, 1) := by decide +kernel
theorem dL_law_758 : decode cL_law 758 = .ok (.aload_n 0, 1) := by decide +kernel
theorem dL_law_759 : decode cL_law 759 = .ok (.iload_n 3, 1) := by decide +kernel
theorem dL_law_760 : decode cL_law 760 = .ok (.iconst 1, 1) := by decide +kernel
theorem dL_law_761 : decode cL_law 761 = .ok (.iadd, 1) := by decide +kernel
theorem dL_law_762 : decode cL_law 762 = .ok (.iaload, 1) := by decide +kernel
theorem dL_law_763 : decode cL_law 763 = .ok (.aload_n 0, 1) := by decide +kernel
theorem dL_law_764 : decode cL_law 764 = .ok (.iload_n 3, 1) := by decide +kernel
theorem dL_law_765 : decode cL_law 765 = .ok (.iconst 2, 1) := by decide +kernel
theorem dL_law_766 : decode cL_law 766 = .ok (.iadd, 1) := by decide +kernel
theorem dL_law_767 : decode cL_law 767 = .ok (.iaload, 1) := by decide +kernel
theorem dL_law_768 : decode cL_law 768 = .ok (.aload_n 0, 1) := by decide +kernel
theorem dL_law_769 : decode cL_law 769 = .ok (.iload_n 3, 1) := by decide +kernel
theorem dL_law_770 : decode cL_law 770 = .ok (.iconst 3, 1) := by decide +kernel
theorem dL_law_771 : decode cL_law 771 = .ok (.iadd, 1) := by decide +kernel
theorem dL_law_772 : decode cL_law 772 = .ok (.iaload, 1) := by decide +kernel
theorem dL_law_773 : decode cL_law 773 = .ok (.invokevirtual 95, 3) := by decide +kernel
theorem dL_law_776 : decode cL_law 776 = .ok (.aload_n 2, 1) := by decide +kernel
theorem dL_law_777 : decode cL_law 777 = .ok (.aload_n 0, 1) := by decide +kernel
theorem dL_law_778 : decode cL_law 778 = .ok (.iload_n 3, 1) := by decide +kernel
theorem dL_law_779 : decode cL_law 779 = .ok (.iconst 1, 1) := by decide +kernel
theorem dL_law_780 : decode cL_law 780 = .ok (.iadd, 1) := by decide +kernel
theorem dL_law_781 : decode cL_law 781 = .ok (.iaload, 1) := by decide +kernel
theorem dL_law_782 : decode cL_law 782 = .ok (.aload_n 0, 1) := by decide +kernel
theorem dL_law_783 : decode cL_law 783 = .ok (.iload_n 3, 1) := by decide +kernel
theorem dL_law_784 : decode cL_law 784 = .ok (.iconst 2, 1) := by decide +kernel
theorem dL_law_785 : decode cL_law 785 = .ok (.iadd, 1) := by decide +kernel
theorem dL_law_786 : decode cL_law 786 = .ok (.iaload, 1) := by decide +kernel
theorem dL_law_787 : decode cL_law 787 = .ok (.aload_n 0, 1) := by decide +kernel
theorem dL_law_788 : decode cL_law 788 = .ok (.iload_n 3, 1) := by decide +kernel
theorem dL_law_789 : decode cL_law 789 = .ok (.iconst 3, 1) := by decide +kernel
theorem dL_law_790 : decode cL_law 790 = .ok (.iadd, 1) := by decide +kernel
theorem dL_law_791 : decode cL_law 791 = .ok (.iaload, 1) := by decide +kernel
theorem dL_law_792 : decode cL_law 792 = .ok (.invokevirtual 98, 3) := by decide +kernel
theorem dL_law_795 : decode cL_law 795 = .ok (.if_icmp .eq 28, 3) := by decide +kernel
theorem dL_law_798 : decode cL_law 798 = .ok (.iconst 0, 1) := by decide +kernel
theorem dL_law_799 : decode cL_law 799 = .ok (.ireturn, 1) := by decide +kernel
theorem dL_law_800 : decode cL_law 800 = .ok (.aload_n 1, 1) := by decide +kernel
theorem dL_law_801 : decode cL_law 801 = .ok (.aload_n 0, 1) := by decide +kernel
theorem dL_law_802 : decode cL_law 802 = .ok (.iload_n 3, 1) := by decide +kernel
theorem dL_law_803 : decode cL_law 803 = .ok (.iconst 1, 1) := by decide +kernel
theorem dL_law_804 : decode cL_law 804 = .ok (.iadd, 1) := by decide +kernel
theorem dL_law_805 : decode cL_law 805 = .ok (.iaload, 1) := by decide +kernel
theorem dL_law_806 : decode cL_law 806 = .ok (.invokevirtual 99, 3) := by decide +kernel
theorem dL_law_809 : decode cL_law 809 = .ok (.aload_n 2, 1) := by decide +kernel
theorem dL_law_810 : decode cL_law 810 = .ok (.aload_n 0, 1) := by decide +kernel
theorem dL_law_811 : decode cL_law 811 = .ok (.iload_n 3, 1) := by decide +kernel
theorem dL_law_812 : decode cL_law 812 = .ok (.iconst 1, 1) := by decide +kernel
theorem dL_law_813 : decode cL_law 813 = .ok (.iadd, 1) := by decide +kernel
theorem dL_law_814 : decode cL_law 814 = .ok (.iaload, 1) := by decide +kernel
theorem dL_law_815 : decode cL_law 815 = .ok (.invokevirtual 102, 3) := by decide +kernel
theorem dL_law_818 : decode cL_law 818 = .ok (.if_icmp .eq 5, 3) := by decide +kernel
theorem dL_law_821 : decode cL_law 821 = .ok (.iconst 0, 1) := by decide +kernel
theorem dL_law_822 : decode cL_law 822 = .ok (.ireturn, 1) := by decide +kernel
theorem dL_law_823 : decode cL_law 823 = .ok (.iinc 3 7, 3) := by decide +kernel
theorem dL_law_826 : decode cL_law 826 = .ok (.goto (-808), 3) := by decide +kernel
theorem dL_law_829 : decode cL_law 829 = .ok (.iconst 1, 1) := by decide +kernel
theorem dL_law_830 : decode cL_law 830 = .ok (.ireturn, 1) := by decide +kernel
end
section
/-! ===== worlds by kinds: a state is a row of ints for each object; AW: the walk of a method over such a state ===== -/
abbrev AV : Type := Int32 ⊕ (Nat × Nat)
abbrev SS : Type := Nat → Nat → Nat → Int32
abbrev AD : Type := Nat → Nat → Nat
/-- a kind: objects of a class (a field: none an int, some k the object of kind k of the same number), int rows of a length, or a row of all objects of a kind -/
abbrev ax_Sh : Type := (Nat × List (Option Nat)) ⊕ (Nat ⊕ (Nat × Nat))
def ax_va (ad : AD) (v : AV) : Value := match v with
  | .inl x => .int x
  | .inr q => .ref (ad q.1 q.2)
def ax_sh : Nat → ax_Sh := fun k => match k with
  | 0 => .inl (3, [some 1, some 2, some 3, some 4, some 5, some 6, some 7, none, none, none, none, none])
  | 1 => .inr (.inr (8, 1))
  | 2 => .inr (.inr (10, 2))
  | 3 => .inr (.inl 64)
  | 4 => .inl (1, [none, none, none, some 11, some 12, some 13, some 14, some 15, some 16, some 17, some 18, some 19, some 20, some 21, some 22, some 23, some 24, some 25, some 26, some 27])
  | 5 => .inr (.inl 6)
  | 6 => .inr (.inl 6)
  | 7 => .inr (.inl 4)
  | 8 => .inl (2, [none, none, none, none, some 9, none, none])
  | 9 => .inr (.inl 3)
  | 10 => .inl (0, [none, none, none, none, none, none])
  | 11 => .inr (.inl 6)
  | 12 => .inr (.inl 6)
  | 13 => .inr (.inl 6)
  | 14 => .inr (.inl 6)
  | 15 => .inr (.inl 6)
  | 16 => .inr (.inl 24)
  | 17 => .inr (.inl 4)
  | 18 => .inr (.inl 4)
  | 19 => .inr (.inl 4)
  | 20 => .inr (.inl 6)
  | 21 => .inr (.inl 6)
  | 22 => .inr (.inl 16)
  | 23 => .inr (.inl 16)
  | 24 => .inr (.inl 16)
  | 25 => .inr (.inl 16)
  | 26 => .inr (.inl 96)
  | 27 => .inr (.inl 96)
  | 28 => .inl (4, [none, some 29, some 30, some 31, some 32, some 33, some 34, some 35, some 36, none, some 37, some 38, some 39, some 40, some 41, some 42, some 43, none, some 44, some 45, none, none, none, some 46, some 47, none])
  | 29 => .inr (.inl 6)
  | 30 => .inr (.inl 6)
  | 31 => .inr (.inl 6)
  | 32 => .inr (.inl 6)
  | 33 => .inr (.inl 18)
  | 34 => .inr (.inl 6)
  | 35 => .inr (.inl 6)
  | 36 => .inr (.inl 6)
  | 37 => .inr (.inl 4)
  | 38 => .inr (.inl 4)
  | 39 => .inr (.inl 4)
  | 40 => .inr (.inl 4)
  | 41 => .inr (.inl 4)
  | 42 => .inr (.inl 4)
  | 43 => .inr (.inl 64)
  | 44 => .inr (.inl 6)
  | 45 => .inr (.inl 6)
  | 46 => .inr (.inl 6)
  | 47 => .inr (.inl 5)
  | _ => .inr (.inl 0)
def ax_cnt : Nat → Nat := fun k => match k with
  | 8 => 6
  | 9 => 6
  | 10 => 4
  | k => if k < 48 then 1 else 0
theorem ax_cnt48 {k i : Nat} (h : i < ax_cnt k) : k < 48 := by
  rcases Nat.lt_or_ge k 48 with q | q
  · exact q
  · have e : ax_cnt k = 0 := by
      unfold ax_cnt
      split
      · omega
      · omega
      · omega
      · rw [if_neg (by omega)]
    omega
def ax_wl : List (Nat × Nat) := (List.range 48).flatMap (fun k => (List.range (ax_cnt k)).map (fun i => (k, i)))
theorem ax_wl_mem {k i : Nat} : (k, i) ∈ ax_wl ↔ i < ax_cnt k := by
  unfold ax_wl
  constructor
  · intro h
    obtain ⟨a, ha, hb⟩ := List.mem_flatMap.mp h
    obtain ⟨b, hb, e⟩ := List.mem_map.mp hb
    cases e
    exact List.mem_range.mp hb
  · intro h
    exact List.mem_flatMap.mpr ⟨k, List.mem_range.mpr (ax_cnt48 h), List.mem_map.mpr ⟨i, List.mem_range.mpr h, rfl⟩⟩
theorem ax_wl_nd : ax_wl.Nodup := by decide +kernel
theorem ax_wl_inj {n m : Nat} {q : Nat × Nat} (h : ax_wl[n]? = some q) (h2 : ax_wl[m]? = some q) : n = m := by
  exact (List.getElem?_inj (List.getElem?_eq_some_iff.mp h).1 ax_wl_nd).mp (h.trans h2.symm)
def ax_f1 (ad : AD) (r : Nat → Int32) (i : Nat) (f : Option Nat) (j : Nat) : Value := match f with
  | none => .int (r j)
  | some k => .ref (ad k i)
def ax_fs (ad : AD) (r : Nat → Int32) (i : Nat) : Nat → List (Option Nat) → List Value
  | _, [] => []
  | j, f :: fs => ax_f1 ad r i f j :: ax_fs ad r i (j + 1) fs
theorem ax_fs_get (ad : AD) (r : Nat → Int32) (i : Nat) : ∀ (fs : List (Option Nat)) (j0 j : Nat), (ax_fs ad r i j0 fs)[j]? = fs[j]?.map (fun f => ax_f1 ad r i f (j0 + j))
  | [], j0, j => by simp [ax_fs]
  | f :: fs, j0, 0 => by simp [ax_fs]
  | f :: fs, j0, j + 1 => by
    have := ax_fs_get ad r i fs (j0 + 1) j
    simp only [ax_fs, List.getElem?_cons_succ]
    rw [this, show j0 + 1 + j = j0 + (j + 1) by omega]
theorem ax_fs_len (ad : AD) (r : Nat → Int32) (i : Nat) : ∀ (fs : List (Option Nat)) (j0 : Nat), (ax_fs ad r i j0 fs).length = fs.length
  | [], _ => rfl
  | _ :: fs, j0 => by simp [ax_fs, ax_fs_len ad r i fs (j0 + 1)]
theorem ax_fs_set {ad : AD} {r : Nat → Int32} {i j : Nat} {fs : List (Option Nat)} {v : Int32} (h : fs[j]? = some none) : (ax_fs ad r i 0 fs).set j (.int v) = ax_fs ad (upd r j v) i 0 fs := by
  have hl : j < fs.length := (List.getElem?_eq_some_iff.mp h).1
  apply List.ext_getElem?
  intro m
  by_cases hm : m = j
  · subst hm
    rw [List.getElem?_set_self (by rw [ax_fs_len]; exact hl), ax_fs_get, h]
    simp [ax_f1, upd]
  · rw [List.getElem?_set_ne (Ne.symm hm), ax_fs_get, ax_fs_get]
    cases fs[m]? with
    | none => rfl
    | some f => cases f <;> simp [ax_f1, upd, hm]
def ax_ce (cy : Nat → ClassId) (ad : AD) (r : Nat → Int32) (k i : Nat) : va_E := match ax_sh k with
  | .inl o => .inr (o.1, ax_fs ad r i 0 o.2)
  | .inr (.inl n) => .inl (cy 0, n, .inl r)
  | .inr (.inr q) => .inl (cy q.2, ax_cnt q.1, .inr (.inr (.inr (.inr (fun j => some (ad q.1 j))))))
/-- the cells of a state -/
def ax_w (cy : Nat → ClassId) (ad : AD) (σ : SS) : va_W := ax_wl.map (fun q => (ad q.1 q.2, ax_ce cy ad (σ q.1 q.2) q.1 q.2))
def rp (σ : SS) (k i : Nat) (f : Nat → Int32) : SS := fun k' i' => if k' = k ∧ i' = i then f else σ k' i'
theorem rp_at (σ : SS) (k i : Nat) (f : Nat → Int32) : rp σ k i f k i = f := by simp [rp]
theorem rp_ne {σ : SS} {k i k' i' : Nat} {f : Nat → Int32} (h : ¬ (k' = k ∧ i' = i)) : rp σ k i f k' i' = σ k' i' := by simp [rp, h]
theorem rp_nk {σ : SS} {k i k' i' : Nat} {f : Nat → Int32} (h : ¬ k' = k) : rp σ k i f k' i' = σ k' i' := by simp [rp, h]
theorem rp_rp (σ : SS) (k i : Nat) (f g : Nat → Int32) : rp (rp σ k i f) k i g = rp σ k i g := by
  funext a b
  by_cases h : a = k ∧ b = i <;> simp [rp, h]
theorem rp_self (σ : SS) (k i : Nat) : rp σ k i (σ k i) = σ := by
  funext a b
  by_cases h : a = k ∧ b = i
  · obtain ⟨rfl, rfl⟩ := h; simp [rp]
  · simp [rp, h]
theorem ax_w_get {cy : Nat → ClassId} {ad : AD} {σ : SS} {k i : Nat} (h : i < ax_cnt k) : ∃ n : Nat, ax_wl[n]? = some (k, i) ∧ (ax_w cy ad σ)[n]? = some (ad k i, ax_ce cy ad (σ k i) k i) := by
  obtain ⟨n, hn⟩ := List.getElem?_of_mem (ax_wl_mem.mpr h)
  exact ⟨n, hn, by rw [ax_w, List.getElem?_map, hn]; rfl⟩
theorem ax_w_set {cy : Nat → ClassId} {ad : AD} {σ : SS} {k i n : Nat} (f : Nat → Int32) (h : ax_wl[n]? = some (k, i)) : (ax_w cy ad σ).set n (ad k i, ax_ce cy ad f k i) = ax_w cy ad (rp σ k i f) := by
  have hl : n < ax_wl.length := (List.getElem?_eq_some_iff.mp h).1
  apply List.ext_getElem?
  intro m
  by_cases hm : m = n
  · subst hm
    rw [List.getElem?_set_self (by rw [ax_w, List.length_map]; exact hl), ax_w, List.getElem?_map, h]
    simp [rp_at]
  · rw [List.getElem?_set_ne (Ne.symm hm), ax_w, ax_w, List.getElem?_map, List.getElem?_map]
    cases hq : ax_wl[m]? with
    | none => rfl
    | some q =>
      have hne : ¬ (q.1 = k ∧ q.2 = i) := fun z => hm (ax_wl_inj hq (by rw [h, ← z.1, ← z.2]))
      simp [rp_ne hne]
def ax_ap (ad : AD) : Prop := ∀ k i k' i', i < ax_cnt k → i' < ax_cnt k' → ad k i = ad k' i' → k = k' ∧ i = i'
def ax_A (ad : AD) : Nat → Prop := fun q => ∃ k i, i < ax_cnt k ∧ q = ad k i
theorem ax_D {cy : Nat → ClassId} {ad : AD} {σ : SS} (h : ax_ap ad) : va_D (ax_A ad) (ax_w cy ad σ) := by
  have key : ∀ (n : Nat) (q : Nat × va_E), (ax_w cy ad σ)[n]? = some q → ∃ k i, ax_wl[n]? = some (k, i) ∧ q.1 = ad k i := by
    intro n q hq
    rw [ax_w, List.getElem?_map] at hq
    cases hz : ax_wl[n]? with
    | none => rw [hz] at hq; cases hq
    | some z => rw [hz] at hq; cases hq; exact ⟨z.1, z.2, rfl, rfl⟩
  refine ⟨fun a b x y hx hy hxy => ?_, fun n q hq => ?_⟩
  · obtain ⟨k, i, h1, h2⟩ := key a x hx
    obtain ⟨k', i', h3, h4⟩ := key b y hy
    obtain ⟨rfl, rfl⟩ := h k i k' i' (ax_wl_mem.mp (List.mem_of_getElem? h1)) (ax_wl_mem.mp (List.mem_of_getElem? h3)) (h2.symm.trans (hxy.trans h4))
    exact ax_wl_inj h1 h3
  · obtain ⟨k, i, h1, h2⟩ := key n q hq
    exact ⟨k, i, ax_wl_mem.mp (List.mem_of_getElem? h1), h2⟩
-- the words
def ax_GW : List Cond := lw_tbl.filter goodWord
def ax_isN (w : Cond) : Bool := match w with
  | .fieldLinkNest .. => true
  | .methodLinkNest .. => true
  | _ => false
def ax_NW : List Cond := tables_1.filter ax_isN
theorem ax_nw_onTables {w : Cond} (h : w ∈ ax_NW) : w.onTables = true := by
  have h1 := (List.mem_filter.mp h).2
  cases w <;> first | rfl | simp [ax_isN] at h1
theorem ax_nw_warm {w : Cond} (h : w ∈ ax_NW) {s U : State} (hW : s.WarmedH U.vm) (hZ : va_Nw w s) : va_Nw w U := by
  have h1 := (List.mem_filter.mp h).2
  cases w <;> first | exact va_Nw.warmF hW hZ | exact va_Nw.warmM hW hZ | simp [ax_isN] at h1
abbrev ax_M : Type := MethodName × ByteArray × Nat × Option FieldType
abbrev ax_cw (M : ax_M) : Cond := .code M.1 M.2.1 M.2.2.1 M.2.2.2
def ax_ws (M : ax_M) : List Cond := .code M.1 M.2.1 M.2.2.1 M.2.2.2 :: ax_GW
theorem ax_good {M M' : ax_M} (h : ax_cw M' ∈ ax_GW) : GoodIn (ax_ws M) (ax_ws M') := by
  have key : ∀ w ∈ ax_GW, w ∈ ax_ws M ∧ ((w.onTables && w.keeps) = true ∨ ∃ ty, w = .arrayClass ty) := fun w hw => ⟨List.mem_cons_of_mem _ hw, good_of_word (List.mem_filter.mp hw).2⟩
  intro w hw
  rcases List.mem_cons.mp hw with rfl | hw
  · exact key _ h
  · exact key w hw
theorem ax_gw {w : Cond} (n : Nat) (h : lw_tbl[n]? = some w) (hg : goodWord w = true) : w ∈ ax_GW := List.mem_filter.mpr ⟨List.mem_of_getElem? h, hg⟩
theorem ax_nw {w : Cond} (n : Nat) (h : tables_1[n]? = some w) (hg : ax_isN w = true) : w ∈ ax_NW := List.mem_filter.mpr ⟨List.mem_of_getElem? h, hg⟩
abbrev ax_cl : List vw_C := [(RX0, TX0, 6), (RX1, TX1, 20), (RX2, TX2, 7), (RX3, TX3, 12), (RX4, TX4, 26)]
def ax_ty (cy : Nat → ClassId) : List (ClassId × FieldType) := [(cy 0, .int), (cy 1, .object RX2), (cy 2, .object RX0)]
/-- what a state of the machine must have beside the cells -/
def ax_St (D : va_G) (cy : Nat → ClassId) (ad : AD) (U : State) : Prop := va_K D ax_cl (ax_ty cy) U ∧ (∀ w ∈ ax_NW, va_Nw w U) ∧ ax_ap ad
theorem ax_St.warm {D : va_G} {cy : Nat → ClassId} {ad : AD} {s U : State} (h : ax_St D cy ad s) (hW : s.WarmedH U.vm) : ax_St D cy ad U := ⟨va_K.moved hW.alike h.1, fun w hw => ax_nw_warm hw hW (h.2.1 w hw), h.2.2⟩
def ax_ok (v : AV) : Prop := match v with
  | .inl _ => True
  | .inr q => q.2 < ax_cnt q.1
def ax_lv (ad : AD) : Nat → List (Option AV) → List (Nat × Value)
  | _, [] => []
  | j, none :: l => ax_lv ad (j + 1) l
  | j, some v :: l => (j, ax_va ad v) :: ax_lv ad (j + 1) l
theorem ax_lv_mem {ad : AD} {q : Nat × Value} : ∀ (l : List (Option AV)) (j : Nat), q ∈ ax_lv ad j l ↔ ∃ n v, l[n]? = some (some v) ∧ q = (j + n, ax_va ad v)
  | [], j => by simp [ax_lv]
  | none :: l, j => by
    rw [ax_lv, ax_lv_mem l (j + 1)]
    constructor
    · rintro ⟨n, v, h, e⟩
      exact ⟨n + 1, v, by simpa using h, by rw [e, show j + 1 + n = j + (n + 1) by omega]⟩
    · rintro ⟨n, v, h, e⟩
      cases n with
      | zero => simp at h
      | succ n => exact ⟨n, v, by simpa using h, by rw [e, show j + (n + 1) = j + 1 + n by omega]⟩
  | some w :: l, j => by
    rw [ax_lv, List.mem_cons, ax_lv_mem l (j + 1)]
    constructor
    · rintro (e | ⟨n, v, h, e⟩)
      · exact ⟨0, w, by simp, by simpa using e⟩
      · exact ⟨n + 1, v, by simpa using h, by rw [e, show j + 1 + n = j + (n + 1) by omega]⟩
    · rintro ⟨n, v, h, e⟩
      cases n with
      | zero =>
        simp only [List.getElem?_cons_zero, Option.some.injEq] at h
        subst h
        exact Or.inl (by simpa using e)
      | succ n => exact Or.inr ⟨n, v, by simpa using h, by rw [e, show j + (n + 1) = j + 1 + n by omega]⟩
/-- the locals -/
def ax_L (ad : AD) (nL : Nat) (lsA : Array Slot) (ls : List (Option AV)) : Prop := lv_has lsA nL (ax_lv ad 0 ls) ∧ ∀ v, some v ∈ ls → ax_ok v
theorem ax_va_cat (ad : AD) (v : AV) : (ax_va ad v).category = 1 := by
  cases v <;> rfl
theorem ax_L.get {ad : AD} {nL : Nat} {lsA : Array Slot} {ls : List (Option AV)} (h : ax_L ad nL lsA ls) {n : Nat} {v : AV} (hv : ls[n]? = some (some v)) : lsA[n]? = some (.val (ax_va ad v)) ∧ ax_ok v :=
  ⟨h.1.2.2 (n, ax_va ad v) ((ax_lv_mem ls 0).mpr ⟨n, v, hv, by simp⟩), h.2 v (List.mem_of_getElem? hv)⟩
theorem ax_L.set {ad : AD} {nL : Nat} {lsA : Array Slot} {ls : List (Option AV)} (i : Nat) (v : AV) (hv : ax_ok v) (hls : ∀ v, some v ∈ ls → ax_ok v) (h : lv_has lsA nL ((i, ax_va ad v) :: (ax_lv ad 0 ls).filter (fun q => !(q.1 == i) && !(q.1 + 1 == i && q.2.category == 2)))) : ax_L ad nL lsA (ls.set i (some v)) := by
  refine ⟨⟨h.1, h.2.1, fun q hq => h.2.2 q ?_⟩, fun w hw => ?_⟩
  · obtain ⟨n, w, hn, rfl⟩ := (ax_lv_mem _ 0).mp hq
    by_cases hi : i = n
    · subst hi
      have hlt : i < (ls.set i (some v)).length := (List.getElem?_eq_some_iff.mp hn).1
      rw [List.length_set] at hlt
      rw [List.getElem?_set_self hlt] at hn
      cases hn
      exact List.mem_cons.mpr (Or.inl (by simp))
    · rw [List.getElem?_set_ne hi] at hn
      refine List.mem_cons_of_mem _ (List.mem_filter.mpr ⟨(ax_lv_mem ls 0).mpr ⟨n, w, hn, rfl⟩, ?_⟩)
      have hc := ax_va_cat ad w
      simp [hc]
      omega
  · rcases List.mem_or_eq_of_mem_set hw with h1 | h1
    · exact hls w h1
    · cases h1; exact hv
abbrev ax_K : Type := Option Int32 → SS → Prop
/-- a method's end -/
def ax_Q (D : va_G) (cy : Nat → ClassId) (ad : AD) (K : ax_K) : Array Value → State → Outcome → State → Prop := fun _ st o t => (∃ (r : Option Int32) (σ : SS), o = .returned (r.map Value.int) ∧ K r σ ∧ va_P D ax_cl (ax_w cy ad σ) t.heap) ∧ va_F (ax_A ad) st t
/-- the surroundings of a walk -/
def ax_C (d : Nat) (M : ax_M) (p : Program) (R : Room) (s : State) (m : MethodId) (args : Array Value) (meth : Method) (c : Code) (D : va_G) (cy : Nat → ClassId) (ad : AD) : Prop :=
  p.tables.exec = Jvm.exec ∧ c.code = M.2.1 ∧ meth.sig.returnType = M.2.2.2 ∧ c.maxLocals = M.2.2.1 ∧ meth.locks = false ∧ s.vm.findClass M.1.cls = some m.cls ∧ (∀ w ∈ ax_ws M, w.before args s = true) ∧ ax_St D cy ad s ∧ d ≤ R.frames ∧ 64 * d ≤ R.locals
/-- THE WALK: from here, with these locals, this stack and this state, the method comes to its end, its answer and the state then being as K says; d calls may stand open above it -/
def AW (d : Nat) (M : ax_M) (pc : Nat) (ls : List (Option AV)) (st : List AV) (σ : SS) (K : ax_K) : Prop :=
  ∀ (p : Program) (l : Launch) (e : Env) (R : Room) (s : State) (m : MethodId) (args : Array Value) (below : List Frame) (meth : Method) (c : Code) (D : va_G) (cy : Nat → ClassId) (ad : AD) (H : Heap) (locs : List Loc) (lsA : Array Slot),
    ax_C d M p R s m args meth c D cy ad → ax_L ad M.2.2.1 lsA ls → (∀ v ∈ st, ax_ok v) → va_P D ax_cl (ax_w cy ad σ) H → va_S (ax_A ad) s.heap H locs →
    W p l e R s m args below meth c H locs 0 0 (MQ below (ax_Q D cy ad K) args s 0 0 (ax_A ad)) (F0 m pc lsA (st.map (ax_va ad)))
end
section
/-! ===== rows of AW, one an instruction ===== -/
section AWrows
variable {d : Nat} {M : ax_M} {pc q : Nat} {ls : List (Option AV)} {st : List AV} {σ : SS} {K : ax_K}
theorem aw_iload_n {k : Fin 4} {x : Int32} (hd : decode M.2.1 pc = .ok (.iload_n k, 1)) (hq : pc + 1 = q) (hg : ls[k.val]? = some (some (.inl x))) (kk : AW d M q ls (.inl x :: st) σ K) : AW d M pc ls st σ K := by
  subst hq
  intro p l e R s m args below meth c D cy ad H locs lsA C hl hs hP hS
  refine lv_iload_n C.1 C.2.1 hd rfl (hl.get hg).1 ?_
  exact kk p l e R s m args below meth c D cy ad H locs lsA C hl (List.forall_mem_cons.mpr ⟨trivial, hs⟩) hP hS

theorem aw_iload {k : Nat} {x : Int32} (hd : decode M.2.1 pc = .ok (.iload k, 2)) (hq : pc + 2 = q) (hg : ls[k]? = some (some (.inl x))) (kk : AW d M q ls (.inl x :: st) σ K) : AW d M pc ls st σ K := by
  subst hq
  intro p l e R s m args below meth c D cy ad H locs lsA C hl hs hP hS
  refine lv_iload C.1 C.2.1 hd (hl.get hg).1 ?_
  exact kk p l e R s m args below meth c D cy ad H locs lsA C hl (List.forall_mem_cons.mpr ⟨trivial, hs⟩) hP hS

theorem aw_aload_n {k : Fin 4} {x : Nat × Nat} (hd : decode M.2.1 pc = .ok (.aload_n k, 1)) (hq : pc + 1 = q) (hg : ls[k.val]? = some (some (.inr x))) (kk : AW d M q ls (.inr x :: st) σ K) : AW d M pc ls st σ K := by
  subst hq
  intro p l e R s m args below meth c D cy ad H locs lsA C hl hs hP hS
  refine lv_aload_n C.1 C.2.1 hd rfl (hl.get hg).1 ?_
  exact kk p l e R s m args below meth c D cy ad H locs lsA C hl (List.forall_mem_cons.mpr ⟨(hl.get hg).2, hs⟩) hP hS

theorem aw_aload {k : Nat} {x : Nat × Nat} (hd : decode M.2.1 pc = .ok (.aload k, 2)) (hq : pc + 2 = q) (hg : ls[k]? = some (some (.inr x))) (kk : AW d M q ls (.inr x :: st) σ K) : AW d M pc ls st σ K := by
  subst hq
  intro p l e R s m args below meth c D cy ad H locs lsA C hl hs hP hS
  refine lv_aload C.1 C.2.1 hd (hl.get hg).1 ?_
  exact kk p l e R s m args below meth c D cy ad H locs lsA C hl (List.forall_mem_cons.mpr ⟨(hl.get hg).2, hs⟩) hP hS

theorem aw_istore_n {k : Fin 4} {x : Int32} (hd : decode M.2.1 pc = .ok (.istore_n k, 1)) (hq : pc + 1 = q) (hn : k.val < M.2.2.1) (kk : AW d M q (ls.set k.val (some (.inl x))) st σ K) : AW d M pc ls (.inl x :: st) σ K := by
  subst hq
  intro p l e R s m args below meth c D cy ad H locs lsA C hl hs hP hS
  have hs2 := List.forall_mem_cons.mp hs
  refine lv_istore_n C.1 C.2.1 hd rfl hl.1 hn rfl (fun lsB hlB => ?_)
  exact kk p l e R s m args below meth c D cy ad H locs lsB C (ax_L.set _ _ hs2.1 hl.2 hlB) hs2.2 hP hS

theorem aw_istore {k : Nat} {x : Int32} (hd : decode M.2.1 pc = .ok (.istore k, 2)) (hq : pc + 2 = q) (hn : k < M.2.2.1) (kk : AW d M q (ls.set k (some (.inl x))) st σ K) : AW d M pc ls (.inl x :: st) σ K := by
  subst hq
  intro p l e R s m args below meth c D cy ad H locs lsA C hl hs hP hS
  have hs2 := List.forall_mem_cons.mp hs
  refine lv_istore C.1 C.2.1 hd hl.1 hn rfl (fun lsB hlB => ?_)
  exact kk p l e R s m args below meth c D cy ad H locs lsB C (ax_L.set _ _ hs2.1 hl.2 hlB) hs2.2 hP hS

theorem aw_astore_n {k : Fin 4} {x : Nat × Nat} (hd : decode M.2.1 pc = .ok (.astore_n k, 1)) (hq : pc + 1 = q) (hn : k.val < M.2.2.1) (kk : AW d M q (ls.set k.val (some (.inr x))) st σ K) : AW d M pc ls (.inr x :: st) σ K := by
  subst hq
  intro p l e R s m args below meth c D cy ad H locs lsA C hl hs hP hS
  have hs2 := List.forall_mem_cons.mp hs
  refine lv_astore_n C.1 C.2.1 hd rfl hl.1 hn rfl (fun lsB hlB => ?_)
  exact kk p l e R s m args below meth c D cy ad H locs lsB C (ax_L.set _ _ hs2.1 hl.2 hlB) hs2.2 hP hS

theorem aw_astore {k : Nat} {x : Nat × Nat} (hd : decode M.2.1 pc = .ok (.astore k, 2)) (hq : pc + 2 = q) (hn : k < M.2.2.1) (kk : AW d M q (ls.set k (some (.inr x))) st σ K) : AW d M pc ls (.inr x :: st) σ K := by
  subst hq
  intro p l e R s m args below meth c D cy ad H locs lsA C hl hs hP hS
  have hs2 := List.forall_mem_cons.mp hs
  refine lv_astore C.1 C.2.1 hd hl.1 hn rfl (fun lsB hlB => ?_)
  exact kk p l e R s m args below meth c D cy ad H locs lsB C (ax_L.set _ _ hs2.1 hl.2 hlB) hs2.2 hP hS

theorem aw_iinc {k : Nat} {n : Int} {x v : Int32} (hd : decode M.2.1 pc = .ok (.iinc k n, 3)) (hq : pc + 3 = q) (hg : ls[k]? = some (some (.inl x))) (hv : x + Int32.ofInt n = v) (hn : k < M.2.2.1) (kk : AW d M q (ls.set k (some (.inl v))) st σ K) : AW d M pc ls st σ K := by
  subst hq
  intro p l e R s m args below meth c D cy ad H locs lsA C hl hs hP hS
  have hm : (k, Value.int x) ∈ ax_lv ad 0 ls := (ax_lv_mem ls 0).mpr ⟨k, .inl x, hg, by simp [ax_va]⟩
  obtain ⟨j, hj⟩ := List.getElem?_of_mem hm
  refine lv_iinc C.1 C.2.1 hd hl.1 hj hv hn rfl (fun lsB hlB => ?_)
  exact kk p l e R s m args below meth c D cy ad H locs lsB C (ax_L.set k (.inl v) trivial hl.2 hlB) hs hP hS

theorem aw_iconst {n : Int} (v : Int32) (hd : decode M.2.1 pc = .ok (.iconst n, 1)) (hq : pc + 1 = q) (hv : Int32.ofInt n = v) (kk : AW d M q ls (.inl v :: st) σ K) : AW d M pc ls st σ K := by
  subst hq
  intro p l e R s m args below meth c D cy ad H locs lsA C hl hs hP hS
  refine lv_iconst C.1 C.2.1 hd hv ?_
  exact kk p l e R s m args below meth c D cy ad H locs lsA C hl (List.forall_mem_cons.mpr ⟨trivial, hs⟩) hP hS

theorem aw_bipush {n : Int} (v : Int32) (hd : decode M.2.1 pc = .ok (.bipush n, 2)) (hq : pc + 2 = q) (hv : (Int8.ofInt n).toInt32 = v) (kk : AW d M q ls (.inl v :: st) σ K) : AW d M pc ls st σ K := by
  subst hq
  intro p l e R s m args below meth c D cy ad H locs lsA C hl hs hP hS
  refine lv_bipush C.1 C.2.1 hd hv ?_
  exact kk p l e R s m args below meth c D cy ad H locs lsA C hl (List.forall_mem_cons.mpr ⟨trivial, hs⟩) hP hS

theorem aw_sipush {n : Int} (v : Int32) (hd : decode M.2.1 pc = .ok (.sipush n, 3)) (hq : pc + 3 = q) (hv : (Int16.ofInt n).toInt32 = v) (kk : AW d M q ls (.inl v :: st) σ K) : AW d M pc ls st σ K := by
  subst hq
  intro p l e R s m args below meth c D cy ad H locs lsA C hl hs hP hS
  refine lv_sipush C.1 C.2.1 hd hv ?_
  exact kk p l e R s m args below meth c D cy ad H locs lsA C hl (List.forall_mem_cons.mpr ⟨trivial, hs⟩) hP hS

theorem aw_ldc {n : Nat} {v : Int32} (hd : decode M.2.1 pc = .ok (.ldc n, 2)) (hq : pc + 2 = q) (hv : Cond.constant M.1.cls n v ∈ ax_GW) (kk : AW d M q ls (.inl v :: st) σ K) : AW d M pc ls st σ K := by
  subst hq
  intro p l e R s m args below meth c D cy ad H locs lsA C hl hs hP hS
  refine lv_ldc C.1 C.2.1 C.2.2.2.2.2.1 (C.2.2.2.2.2.2.1 _ (List.mem_cons_of_mem _ hv)) hd ?_
  exact kk p l e R s m args below meth c D cy ad H locs lsA C hl (List.forall_mem_cons.mpr ⟨trivial, hs⟩) hP hS

theorem aw_ldc_w {n : Nat} {v : Int32} (hd : decode M.2.1 pc = .ok (.ldc_w n, 3)) (hq : pc + 3 = q) (hv : Cond.constant M.1.cls n v ∈ ax_GW) (kk : AW d M q ls (.inl v :: st) σ K) : AW d M pc ls st σ K := by
  subst hq
  intro p l e R s m args below meth c D cy ad H locs lsA C hl hs hP hS
  refine lv_ldcw C.1 C.2.1 C.2.2.2.2.2.1 (C.2.2.2.2.2.2.1 _ (List.mem_cons_of_mem _ hv)) hd ?_
  exact kk p l e R s m args below meth c D cy ad H locs lsA C hl (List.forall_mem_cons.mpr ⟨trivial, hs⟩) hP hS

theorem aw_iadd {x y : Int32} (hd : decode M.2.1 pc = .ok (.iadd, 1)) (hq : pc + 1 = q) (kk : AW d M q ls (.inl (x + y) :: st) σ K) : AW d M pc ls (.inl y :: .inl x :: st) σ K := by
  subst hq
  intro p l e R s m args below meth c D cy ad H locs lsA C hl hs hP hS
  have hs2 := (List.forall_mem_cons.mp (List.forall_mem_cons.mp hs).2).2
  refine lv_iadd C.1 C.2.1 hd ?_
  exact kk p l e R s m args below meth c D cy ad H locs lsA C hl (List.forall_mem_cons.mpr ⟨trivial, hs2⟩) hP hS

theorem aw_isub {x y : Int32} (hd : decode M.2.1 pc = .ok (.isub, 1)) (hq : pc + 1 = q) (kk : AW d M q ls (.inl (x - y) :: st) σ K) : AW d M pc ls (.inl y :: .inl x :: st) σ K := by
  subst hq
  intro p l e R s m args below meth c D cy ad H locs lsA C hl hs hP hS
  have hs2 := (List.forall_mem_cons.mp (List.forall_mem_cons.mp hs).2).2
  refine lv_isub C.1 C.2.1 hd ?_
  exact kk p l e R s m args below meth c D cy ad H locs lsA C hl (List.forall_mem_cons.mpr ⟨trivial, hs2⟩) hP hS

theorem aw_imul {x y : Int32} (hd : decode M.2.1 pc = .ok (.imul, 1)) (hq : pc + 1 = q) (kk : AW d M q ls (.inl (x * y) :: st) σ K) : AW d M pc ls (.inl y :: .inl x :: st) σ K := by
  subst hq
  intro p l e R s m args below meth c D cy ad H locs lsA C hl hs hP hS
  have hs2 := (List.forall_mem_cons.mp (List.forall_mem_cons.mp hs).2).2
  refine lv_imul C.1 C.2.1 hd ?_
  exact kk p l e R s m args below meth c D cy ad H locs lsA C hl (List.forall_mem_cons.mpr ⟨trivial, hs2⟩) hP hS

theorem aw_iand {x y : Int32} (hd : decode M.2.1 pc = .ok (.iand, 1)) (hq : pc + 1 = q) (kk : AW d M q ls (.inl (x &&& y) :: st) σ K) : AW d M pc ls (.inl y :: .inl x :: st) σ K := by
  subst hq
  intro p l e R s m args below meth c D cy ad H locs lsA C hl hs hP hS
  have hs2 := (List.forall_mem_cons.mp (List.forall_mem_cons.mp hs).2).2
  refine lv_iand C.1 C.2.1 hd ?_
  exact kk p l e R s m args below meth c D cy ad H locs lsA C hl (List.forall_mem_cons.mpr ⟨trivial, hs2⟩) hP hS

theorem aw_ior {x y : Int32} (hd : decode M.2.1 pc = .ok (.ior, 1)) (hq : pc + 1 = q) (kk : AW d M q ls (.inl (x ||| y) :: st) σ K) : AW d M pc ls (.inl y :: .inl x :: st) σ K := by
  subst hq
  intro p l e R s m args below meth c D cy ad H locs lsA C hl hs hP hS
  have hs2 := (List.forall_mem_cons.mp (List.forall_mem_cons.mp hs).2).2
  refine lv_ior C.1 C.2.1 hd ?_
  exact kk p l e R s m args below meth c D cy ad H locs lsA C hl (List.forall_mem_cons.mpr ⟨trivial, hs2⟩) hP hS

theorem aw_ixor {x y : Int32} (hd : decode M.2.1 pc = .ok (.ixor, 1)) (hq : pc + 1 = q) (kk : AW d M q ls (.inl (x ^^^ y) :: st) σ K) : AW d M pc ls (.inl y :: .inl x :: st) σ K := by
  subst hq
  intro p l e R s m args below meth c D cy ad H locs lsA C hl hs hP hS
  have hs2 := (List.forall_mem_cons.mp (List.forall_mem_cons.mp hs).2).2
  refine lv_ixor C.1 C.2.1 hd ?_
  exact kk p l e R s m args below meth c D cy ad H locs lsA C hl (List.forall_mem_cons.mpr ⟨trivial, hs2⟩) hP hS

theorem aw_ishl {x y : Int32} (hd : decode M.2.1 pc = .ok (.ishl, 1)) (hq : pc + 1 = q) (kk : AW d M q ls (.inl (x <<< (y &&& 31)) :: st) σ K) : AW d M pc ls (.inl y :: .inl x :: st) σ K := by
  subst hq
  intro p l e R s m args below meth c D cy ad H locs lsA C hl hs hP hS
  have hs2 := (List.forall_mem_cons.mp (List.forall_mem_cons.mp hs).2).2
  refine lv_ishl C.1 C.2.1 hd ?_
  exact kk p l e R s m args below meth c D cy ad H locs lsA C hl (List.forall_mem_cons.mpr ⟨trivial, hs2⟩) hP hS

theorem aw_ishr {x y : Int32} (hd : decode M.2.1 pc = .ok (.ishr, 1)) (hq : pc + 1 = q) (kk : AW d M q ls (.inl (x >>> (y &&& 31)) :: st) σ K) : AW d M pc ls (.inl y :: .inl x :: st) σ K := by
  subst hq
  intro p l e R s m args below meth c D cy ad H locs lsA C hl hs hP hS
  have hs2 := (List.forall_mem_cons.mp (List.forall_mem_cons.mp hs).2).2
  refine lv_ishr C.1 C.2.1 hd ?_
  exact kk p l e R s m args below meth c D cy ad H locs lsA C hl (List.forall_mem_cons.mpr ⟨trivial, hs2⟩) hP hS

theorem aw_idiv {x y : Int32} (hd : decode M.2.1 pc = .ok (.idiv, 1)) (hq : pc + 1 = q) (hy : ¬ y = 0) (kk : AW d M q ls (.inl (x / y) :: st) σ K) : AW d M pc ls (.inl y :: .inl x :: st) σ K := by
  subst hq
  intro p l e R s m args below meth c D cy ad H locs lsA C hl hs hP hS
  have hs2 := (List.forall_mem_cons.mp (List.forall_mem_cons.mp hs).2).2
  refine lv_idiv C.1 C.2.1 hd hy ?_
  exact kk p l e R s m args below meth c D cy ad H locs lsA C hl (List.forall_mem_cons.mpr ⟨trivial, hs2⟩) hP hS

theorem aw_irem {x y : Int32} (hd : decode M.2.1 pc = .ok (.irem, 1)) (hq : pc + 1 = q) (hy : ¬ y = 0) (kk : AW d M q ls (.inl (x - x / y * y) :: st) σ K) : AW d M pc ls (.inl y :: .inl x :: st) σ K := by
  subst hq
  intro p l e R s m args below meth c D cy ad H locs lsA C hl hs hP hS
  have hs2 := (List.forall_mem_cons.mp (List.forall_mem_cons.mp hs).2).2
  refine lv_irem C.1 C.2.1 hd hy ?_
  exact kk p l e R s m args below meth c D cy ad H locs lsA C hl (List.forall_mem_cons.mpr ⟨trivial, hs2⟩) hP hS

theorem aw_iushr {x y : Int32} (hd : decode M.2.1 pc = .ok (.iushr, 1)) (hq : pc + 1 = q) (kk : AW d M q ls (.inl ((x.toUInt32 >>> (y.toUInt32 &&& Int32.toUInt32 31)).toInt32) :: st) σ K) : AW d M pc ls (.inl y :: .inl x :: st) σ K := by
  subst hq
  intro p l e R s m args below meth c D cy ad H locs lsA C hl hs hP hS
  have hs2 := (List.forall_mem_cons.mp (List.forall_mem_cons.mp hs).2).2
  refine lv_iushr C.1 C.2.1 hd rfl ?_
  exact kk p l e R s m args below meth c D cy ad H locs lsA C hl (List.forall_mem_cons.mpr ⟨trivial, hs2⟩) hP hS

theorem aw_ineg {x : Int32} (hd : decode M.2.1 pc = .ok (.ineg, 1)) (hq : pc + 1 = q) (kk : AW d M q ls (.inl (-x) :: st) σ K) : AW d M pc ls (.inl x :: st) σ K := by
  subst hq
  intro p l e R s m args below meth c D cy ad H locs lsA C hl hs hP hS
  refine lv_ineg C.1 C.2.1 hd ?_
  exact kk p l e R s m args below meth c D cy ad H locs lsA C hl (List.forall_mem_cons.mpr ⟨trivial, (List.forall_mem_cons.mp hs).2⟩) hP hS

theorem aw_dup {v : AV} (hd : decode M.2.1 pc = .ok (.dup, 1)) (hq : pc + 1 = q) (kk : AW d M q ls (v :: v :: st) σ K) : AW d M pc ls (v :: st) σ K := by
  subst hq
  intro p l e R s m args below meth c D cy ad H locs lsA C hl hs hP hS
  refine lv_dup C.1 C.2.1 hd (ax_va_cat ad v) ?_
  exact kk p l e R s m args below meth c D cy ad H locs lsA C hl (List.forall_mem_cons.mpr ⟨(List.forall_mem_cons.mp hs).1, hs⟩) hP hS

theorem aw_dup2 {u v : AV} (hd : decode M.2.1 pc = .ok (.dup2, 1)) (hq : pc + 1 = q) (kk : AW d M q ls (v :: u :: v :: u :: st) σ K) : AW d M pc ls (v :: u :: st) σ K := by
  subst hq
  intro p l e R s m args below meth c D cy ad H locs lsA C hl hs hP hS
  have h1 := List.forall_mem_cons.mp hs
  have h2 := List.forall_mem_cons.mp h1.2
  refine lv_dup2_11 C.1 C.2.1 hd (ax_va_cat ad v) (ax_va_cat ad u) ?_
  exact kk p l e R s m args below meth c D cy ad H locs lsA C hl (List.forall_mem_cons.mpr ⟨h1.1, List.forall_mem_cons.mpr ⟨h2.1, hs⟩⟩) hP hS

theorem aw_goto {off : Int} (hd : decode M.2.1 pc = .ok (.goto off, 3)) (ht : (pc : Int) + off = (q : Int)) (kk : AW d M q ls st σ K) : AW d M pc ls st σ K := by
  intro p l e R s m args below meth c D cy ad H locs lsA C hl hs hP hS
  refine lv_goto C.1 C.2.1 hd ht ?_
  exact kk p l e R s m args below meth c D cy ad H locs lsA C hl hs hP hS

theorem aw_icmp_eq {x y : Int32} {off : Int} {tgt : Nat} (hd : decode M.2.1 pc = .ok (.if_icmp .eq off, 3)) (ht : (pc : Int) + off = (tgt : Int)) (hq : pc + 3 = q) (kt : x = y → AW d M tgt ls st σ K) (kf : ¬ x = y → AW d M q ls st σ K) : AW d M pc ls (.inl y :: .inl x :: st) σ K := by
  subst hq
  intro p l e R s m args below meth c D cy ad H locs lsA C hl hs hP hS
  have hs2 := (List.forall_mem_cons.mp (List.forall_mem_cons.mp hs).2).2
  exact lv_icmp_eq C.1 C.2.1 hd ht (fun h => kt h p l e R s m args below meth c D cy ad H locs lsA C hl hs2 hP hS) (fun h => kf h p l e R s m args below meth c D cy ad H locs lsA C hl hs2 hP hS)
theorem aw_icmp_ne {x y : Int32} {off : Int} {tgt : Nat} (hd : decode M.2.1 pc = .ok (.if_icmp .ne off, 3)) (ht : (pc : Int) + off = (tgt : Int)) (hq : pc + 3 = q) (kt : ¬ x = y → AW d M tgt ls st σ K) (kf : x = y → AW d M q ls st σ K) : AW d M pc ls (.inl y :: .inl x :: st) σ K := by
  subst hq
  intro p l e R s m args below meth c D cy ad H locs lsA C hl hs hP hS
  have hs2 := (List.forall_mem_cons.mp (List.forall_mem_cons.mp hs).2).2
  exact lv_icmp_ne C.1 C.2.1 hd ht (fun h => kt h p l e R s m args below meth c D cy ad H locs lsA C hl hs2 hP hS) (fun h => kf h p l e R s m args below meth c D cy ad H locs lsA C hl hs2 hP hS)
theorem aw_icmp_lt {x y : Int32} {off : Int} {tgt : Nat} (hd : decode M.2.1 pc = .ok (.if_icmp .lt off, 3)) (ht : (pc : Int) + off = (tgt : Int)) (hq : pc + 3 = q) (kt : x < y → AW d M tgt ls st σ K) (kf : ¬ x < y → AW d M q ls st σ K) : AW d M pc ls (.inl y :: .inl x :: st) σ K := by
  subst hq
  intro p l e R s m args below meth c D cy ad H locs lsA C hl hs hP hS
  have hs2 := (List.forall_mem_cons.mp (List.forall_mem_cons.mp hs).2).2
  exact lv_icmp_lt C.1 C.2.1 hd ht (fun h => kt h p l e R s m args below meth c D cy ad H locs lsA C hl hs2 hP hS) (fun h => kf h p l e R s m args below meth c D cy ad H locs lsA C hl hs2 hP hS)
theorem aw_icmp_ge {x y : Int32} {off : Int} {tgt : Nat} (hd : decode M.2.1 pc = .ok (.if_icmp .ge off, 3)) (ht : (pc : Int) + off = (tgt : Int)) (hq : pc + 3 = q) (kt : y ≤ x → AW d M tgt ls st σ K) (kf : ¬ y ≤ x → AW d M q ls st σ K) : AW d M pc ls (.inl y :: .inl x :: st) σ K := by
  subst hq
  intro p l e R s m args below meth c D cy ad H locs lsA C hl hs hP hS
  have hs2 := (List.forall_mem_cons.mp (List.forall_mem_cons.mp hs).2).2
  exact lv_icmp_ge C.1 C.2.1 hd ht (fun h => kt h p l e R s m args below meth c D cy ad H locs lsA C hl hs2 hP hS) (fun h => kf h p l e R s m args below meth c D cy ad H locs lsA C hl hs2 hP hS)
theorem aw_icmp_gt {x y : Int32} {off : Int} {tgt : Nat} (hd : decode M.2.1 pc = .ok (.if_icmp .gt off, 3)) (ht : (pc : Int) + off = (tgt : Int)) (hq : pc + 3 = q) (kt : y < x → AW d M tgt ls st σ K) (kf : ¬ y < x → AW d M q ls st σ K) : AW d M pc ls (.inl y :: .inl x :: st) σ K := by
  subst hq
  intro p l e R s m args below meth c D cy ad H locs lsA C hl hs hP hS
  have hs2 := (List.forall_mem_cons.mp (List.forall_mem_cons.mp hs).2).2
  exact lv_icmp_gt C.1 C.2.1 hd ht (fun h => kt h p l e R s m args below meth c D cy ad H locs lsA C hl hs2 hP hS) (fun h => kf h p l e R s m args below meth c D cy ad H locs lsA C hl hs2 hP hS)
theorem aw_icmp_le {x y : Int32} {off : Int} {tgt : Nat} (hd : decode M.2.1 pc = .ok (.if_icmp .le off, 3)) (ht : (pc : Int) + off = (tgt : Int)) (hq : pc + 3 = q) (kt : x ≤ y → AW d M tgt ls st σ K) (kf : ¬ x ≤ y → AW d M q ls st σ K) : AW d M pc ls (.inl y :: .inl x :: st) σ K := by
  subst hq
  intro p l e R s m args below meth c D cy ad H locs lsA C hl hs hP hS
  have hs2 := (List.forall_mem_cons.mp (List.forall_mem_cons.mp hs).2).2
  exact lv_icmp_le C.1 C.2.1 hd ht (fun h => kt h p l e R s m args below meth c D cy ad H locs lsA C hl hs2 hP hS) (fun h => kf h p l e R s m args below meth c D cy ad H locs lsA C hl hs2 hP hS)
theorem aw_if_eq {x : Int32} {off : Int} {tgt : Nat} (hd : decode M.2.1 pc = .ok (.ifCond .eq off, 3)) (ht : (pc : Int) + off = (tgt : Int)) (hq : pc + 3 = q) (kt : x = 0 → AW d M tgt ls st σ K) (kf : ¬ x = 0 → AW d M q ls st σ K) : AW d M pc ls (.inl x :: st) σ K := by
  subst hq
  intro p l e R s m args below meth c D cy ad H locs lsA C hl hs hP hS
  have hs2 := (List.forall_mem_cons.mp hs).2
  exact lv_if_eq C.1 C.2.1 hd ht (fun h => kt h p l e R s m args below meth c D cy ad H locs lsA C hl hs2 hP hS) (fun h => kf h p l e R s m args below meth c D cy ad H locs lsA C hl hs2 hP hS)
theorem aw_if_ne {x : Int32} {off : Int} {tgt : Nat} (hd : decode M.2.1 pc = .ok (.ifCond .ne off, 3)) (ht : (pc : Int) + off = (tgt : Int)) (hq : pc + 3 = q) (kt : ¬ x = 0 → AW d M tgt ls st σ K) (kf : x = 0 → AW d M q ls st σ K) : AW d M pc ls (.inl x :: st) σ K := by
  subst hq
  intro p l e R s m args below meth c D cy ad H locs lsA C hl hs hP hS
  have hs2 := (List.forall_mem_cons.mp hs).2
  exact lv_if_ne C.1 C.2.1 hd ht (fun h => kt h p l e R s m args below meth c D cy ad H locs lsA C hl hs2 hP hS) (fun h => kf h p l e R s m args below meth c D cy ad H locs lsA C hl hs2 hP hS)
theorem aw_if_lt {x : Int32} {off : Int} {tgt : Nat} (hd : decode M.2.1 pc = .ok (.ifCond .lt off, 3)) (ht : (pc : Int) + off = (tgt : Int)) (hq : pc + 3 = q) (kt : x < 0 → AW d M tgt ls st σ K) (kf : ¬ x < 0 → AW d M q ls st σ K) : AW d M pc ls (.inl x :: st) σ K := by
  subst hq
  intro p l e R s m args below meth c D cy ad H locs lsA C hl hs hP hS
  have hs2 := (List.forall_mem_cons.mp hs).2
  exact lv_if_lt C.1 C.2.1 hd ht (fun h => kt h p l e R s m args below meth c D cy ad H locs lsA C hl hs2 hP hS) (fun h => kf h p l e R s m args below meth c D cy ad H locs lsA C hl hs2 hP hS)
theorem aw_if_ge {x : Int32} {off : Int} {tgt : Nat} (hd : decode M.2.1 pc = .ok (.ifCond .ge off, 3)) (ht : (pc : Int) + off = (tgt : Int)) (hq : pc + 3 = q) (kt : 0 ≤ x → AW d M tgt ls st σ K) (kf : ¬ 0 ≤ x → AW d M q ls st σ K) : AW d M pc ls (.inl x :: st) σ K := by
  subst hq
  intro p l e R s m args below meth c D cy ad H locs lsA C hl hs hP hS
  have hs2 := (List.forall_mem_cons.mp hs).2
  exact lv_if_ge C.1 C.2.1 hd ht (fun h => kt h p l e R s m args below meth c D cy ad H locs lsA C hl hs2 hP hS) (fun h => kf h p l e R s m args below meth c D cy ad H locs lsA C hl hs2 hP hS)
theorem aw_if_gt {x : Int32} {off : Int} {tgt : Nat} (hd : decode M.2.1 pc = .ok (.ifCond .gt off, 3)) (ht : (pc : Int) + off = (tgt : Int)) (hq : pc + 3 = q) (kt : 0 < x → AW d M tgt ls st σ K) (kf : ¬ 0 < x → AW d M q ls st σ K) : AW d M pc ls (.inl x :: st) σ K := by
  subst hq
  intro p l e R s m args below meth c D cy ad H locs lsA C hl hs hP hS
  have hs2 := (List.forall_mem_cons.mp hs).2
  exact lv_if_gt C.1 C.2.1 hd ht (fun h => kt h p l e R s m args below meth c D cy ad H locs lsA C hl hs2 hP hS) (fun h => kf h p l e R s m args below meth c D cy ad H locs lsA C hl hs2 hP hS)
theorem aw_if_le {x : Int32} {off : Int} {tgt : Nat} (hd : decode M.2.1 pc = .ok (.ifCond .le off, 3)) (ht : (pc : Int) + off = (tgt : Int)) (hq : pc + 3 = q) (kt : x ≤ 0 → AW d M tgt ls st σ K) (kf : ¬ x ≤ 0 → AW d M q ls st σ K) : AW d M pc ls (.inl x :: st) σ K := by
  subst hq
  intro p l e R s m args below meth c D cy ad H locs lsA C hl hs hP hS
  have hs2 := (List.forall_mem_cons.mp hs).2
  exact lv_if_le C.1 C.2.1 hd ht (fun h => kt h p l e R s m args below meth c D cy ad H locs lsA C hl hs2 hP hS) (fun h => kf h p l e R s m args below meth c D cy ad H locs lsA C hl hs2 hP hS)
theorem aw_tableIn {dflt lo hi : Int} {offs : Array Int} {len : Nat} {x : Int32} {off : Int} (hd : decode M.2.1 pc = .ok (.tableswitch dflt lo hi offs, len)) (h1 : ¬ x.toInt < lo) (h2 : ¬ hi < x.toInt) (ho : offs[(x.toInt - lo).toNat]? = some off) (ht : (pc : Int) + off = (q : Int)) (kk : AW d M q ls st σ K) : AW d M pc ls (.inl x :: st) σ K := by
  intro p l e R s m args below meth c D cy ad H locs lsA C hl hs hP hS
  exact lv_tableIn C.1 C.2.1 hd h1 h2 ho ht (kk p l e R s m args below meth c D cy ad H locs lsA C hl (List.forall_mem_cons.mp hs).2 hP hS)
theorem aw_tableOut {dflt lo hi : Int} {offs : Array Int} {len : Nat} {x : Int32} (hd : decode M.2.1 pc = .ok (.tableswitch dflt lo hi offs, len)) (h : x.toInt < lo ∨ hi < x.toInt) (ht : (pc : Int) + dflt = (q : Int)) (kk : AW d M q ls st σ K) : AW d M pc ls (.inl x :: st) σ K := by
  intro p l e R s m args below meth c D cy ad H locs lsA C hl hs hP hS
  exact lv_tableOut C.1 C.2.1 hd h ht (kk p l e R s m args below meth c D cy ad H locs lsA C hl (List.forall_mem_cons.mp hs).2 hP hS)
theorem aw_lookup {dflt : Int} {ps : Array (Int × Int)} {len : Nat} {x : Int32} {off : Int} (hd : decode M.2.1 pc = .ok (.lookupswitch dflt ps, len)) (hp : (ps.toList.zip (ps.toList.drop 1)).all (fun (a, next) => a.1 < next.1) = true) (ho : Op.lookupswitch.offset ps.toList dflt x.toInt = off) (ht : (pc : Int) + off = (q : Int)) (kk : AW d M q ls st σ K) : AW d M pc ls (.inl x :: st) σ K := by
  intro p l e R s m args below meth c D cy ad H locs lsA C hl hs hP hS
  exact lv_lookup C.1 C.2.1 hd hp ho ht (kk p l e R s m args below meth c D cy ad H locs lsA C hl (List.forall_mem_cons.mp hs).2 hP hS)
theorem aw_ret {v : Int32} {ty : FieldType} (hd : decode M.2.1 pc = .ok (.ireturn, 1)) (hr : M.2.2.2 = some ty) (hn : narrow ty (.int v) = .int v) (hK : K (some v) σ) : AW d M pc ls [.inl v] σ K := by
  intro p l e R s m args below meth c D cy ad H locs lsA C hl hs hP hS
  exact W.zret (ty := ty) C.1 C.2.1 (C.2.2.1.trans hr) hn (fun t ht hW => ⟨⟨some v, σ, rfl, hK, by rw [ht]; exact hP⟩, hS.F ht⟩) hS.2.2 hd C.2.2.2.2.1
theorem aw_vret (hd : decode M.2.1 pc = .ok (.return_, 1)) (hr : M.2.2.2 = none) (hK : K none σ) : AW d M pc ls [] σ K := by
  intro p l e R s m args below meth c D cy ad H locs lsA C hl hs hP hS
  exact W.vret C.1 C.2.1 (C.2.2.1.trans hr) (fun t ht hW => ⟨⟨none, σ, rfl, hK, by rw [ht]; exact hP⟩, hS.F ht⟩) hS.2.2 hd C.2.2.2.2.1
theorem AW.conv {ls' : List (Option AV)} {st' : List AV} {σ' : SS} (h : AW d M pc ls' st' σ' K) (e1 : ls = ls') (e2 : st = st') (e3 : σ = σ') : AW d M pc ls st σ K := by subst e1; subst e2; subst e3; exact h
theorem AW.forget {ls' : List (Option AV)} (h : AW d M pc ls' st σ K) (e : ∀ (n : Nat) (v : AV), ls'[n]? = some (some v) → ls[n]? = some (some v)) : AW d M pc ls st σ K := by
  intro p l e' R s m args below meth c D cy ad H locs lsA C hl hs hP hS
  refine h p l e' R s m args below meth c D cy ad H locs lsA C ⟨⟨hl.1.1, hl.1.2.1, fun q hq => ?_⟩, fun v hv => ?_⟩ hs hP hS
  · obtain ⟨n, v, hn, rfl⟩ := (ax_lv_mem _ 0).mp hq
    exact hl.1.2.2 _ ((ax_lv_mem _ 0).mpr ⟨n, v, e n v hn, rfl⟩)
  · obtain ⟨n, hn⟩ := List.getElem?_of_mem hv
    exact hl.2 v (List.mem_of_getElem? (e n v hn))
theorem AW.mono {K' : ax_K} (h : AW d M pc ls st σ K') (hK : ∀ r σ', K' r σ' → K r σ') : AW d M pc ls st σ K := by
  intro p l e R s m args below meth c D cy ad H locs lsA C hl hs hP hS T hT X
  obtain ⟨t, h1, o, h2, h3, ⟨⟨r, σ', h4, h5, h6⟩, h7⟩, h8⟩ := h p l e R s m args below meth c D cy ad H locs lsA C hl hs hP hS T hT X
  exact ⟨t, h1, o, h2, h3, ⟨⟨r, σ', h4, hK r σ' h5, h6⟩, h7⟩, h8⟩
theorem AW.up {d' : Nat} (h : AW d M pc ls st σ K) (hd : d ≤ d') : AW d' M pc ls st σ K := by
  intro p l e R s m args below meth c D cy ad H locs lsA C hl hs hP hS
  obtain ⟨c1, c2, c3, c4, c5, c6, c7, c8, c9, c10⟩ := C
  exact h p l e R s m args below meth c D cy ad H locs lsA ⟨c1, c2, c3, c4, c5, c6, c7, c8, by omega, by omega⟩ hl hs hP hS
end AWrows
end
section
/-! ===== rows of AW over the heap, and calls ===== -/
def ax_FL (own : String) (idx ci f : Nat) : Prop := ∀ r : vw_C, ax_cl[ci]? = some r → f < r.2.2 ∧ (Cond.fieldLink own idx (r.2.1 f).1 (r.2.1 f).2.1 (r.2.1 f).2.2.1 ∈ ax_GW ∨ ∃ host, Cond.fieldLinkNest own idx (r.2.1 f).1 (r.2.1 f).2.1 (r.2.1 f).2.2.1 host ∈ ax_NW)
def ax_PF (ci f : Nat) (v : Int32) : Prop := ∀ r : vw_C, ax_cl[ci]? = some r → (r.2.1 f).2.2.2 = false ∧ ∃ ty, parseFieldDescriptor (r.2.1 f).2.2.1 = some ty ∧ narrow ty (.int v) = .int v ∧ fits ty (.int v) = true
theorem ax_u : ∀ (ci : Nat) (r : vw_C), ax_cl[ci]? = some r → (∀ w ∈ u_ws r.1 r.2.1 r.2.2, w ∈ ax_GW) ∧ (∃ ty0 : Nat → FieldType, ∀ k, k < r.2.2 → parseFieldDescriptor (r.2.1 k).2.2.1 = some (ty0 k)) ∧ ∀ a, a < r.2.2 → ∀ b, b < r.2.2 → a ≠ b → (r.2.1 a).2.1 ≠ (r.2.1 b).2.1
  | 0, r, h => by cases h; exact ⟨by decide +kernel, ⟨tyX0, tyX0_ok⟩, nmX0⟩
  | 1, r, h => by cases h; exact ⟨by decide +kernel, ⟨tyX1, tyX1_ok⟩, nmX1⟩
  | 2, r, h => by cases h; exact ⟨by decide +kernel, ⟨tyX2, tyX2_ok⟩, nmX2⟩
  | 3, r, h => by cases h; exact ⟨by decide +kernel, ⟨tyX3, tyX3_ok⟩, nmX3⟩
  | 4, r, h => by cases h; exact ⟨by decide +kernel, ⟨tyX4, tyX4_ok⟩, nmX4⟩
  | n + 5, r, h => by simp [ax_cl] at h
section AWheap
variable {d : Nat} {M : ax_M} {pc q : Nat} {ls : List (Option AV)} {st : List AV} {σ : SS} {K : ax_K}
theorem aw_getI {idx ci k i f : Nat} {fs : List (Option Nat)} (hd : decode M.2.1 pc = .ok (.getfield idx, 3)) (hq : pc + 3 = q) (hsh : ax_sh k = .inl (ci, fs)) (hf : fs[f]? = some none) (hF : ax_FL M.1.cls idx ci f) (kk : AW d M q ls (.inl (σ k i f) :: st) σ K) : AW d M pc ls (.inr (k, i) :: st) σ K := by
  subst hq
  intro p l e R s m args below meth c D cy ad H locs lsA C hl hs hP hS
  have hs2 := List.forall_mem_cons.mp hs
  obtain ⟨n, hn, hw⟩ := ax_w_get (cy := cy) (ad := ad) (σ := σ) (show i < ax_cnt k from hs2.1)
  have he : ax_ce cy ad (σ k i) k i = .inr (ci, ax_fs ad (σ k i) i 0 fs) := by unfold ax_ce; rw [hsh]
  rw [he] at hw
  obtain ⟨⟨C1, T1, N1⟩, hr, -⟩ := hP n _ hw
  obtain ⟨hfN, hlk⟩ := hF _ hr
  have hin := (ax_u ci _ hr).1
  have hv : (ax_fs ad (σ k i) i 0 fs)[f]? = some (.int (σ k i f)) := by rw [ax_fs_get, hf]; simp [ax_f1]
  have hk := kk p l e R s m args below meth c D cy ad H locs lsA C hl (List.forall_mem_cons.mpr ⟨trivial, hs2.2⟩) hP hS
  obtain ⟨c1, c2, c3, c4, c5, c6, c7, c8, c9⟩ := C
  rcases hlk with h | ⟨host, h⟩
  · exact va_get c1 c2 c7 (fun w hw => List.mem_cons_of_mem _ (hin w hw)) c6 c8.1 hP n hw hr f hfN (c7 _ (List.mem_cons_of_mem _ h)) (fun _ z => z) hv hd hk
  · exact va_getN c1 c2 c7 (fun w hw => List.mem_cons_of_mem _ (hin w hw)) c6 c8.1 hP n hw hr f hfN (va_Nw.use (ax_nw_onTables h) (c8.2.1 _ h)) (fun _ z => z) hv hd hk
theorem aw_getR {idx ci k k' i f : Nat} {fs : List (Option Nat)} (hd : decode M.2.1 pc = .ok (.getfield idx, 3)) (hq : pc + 3 = q) (hsh : ax_sh k = .inl (ci, fs)) (hf : fs[f]? = some (some k')) (hcc : ax_cnt k ≤ ax_cnt k') (hF : ax_FL M.1.cls idx ci f) (kk : AW d M q ls (.inr (k', i) :: st) σ K) : AW d M pc ls (.inr (k, i) :: st) σ K := by
  subst hq
  intro p l e R s m args below meth c D cy ad H locs lsA C hl hs hP hS
  have hs2 := List.forall_mem_cons.mp hs
  obtain ⟨n, hn, hw⟩ := ax_w_get (cy := cy) (ad := ad) (σ := σ) (show i < ax_cnt k from hs2.1)
  have he : ax_ce cy ad (σ k i) k i = .inr (ci, ax_fs ad (σ k i) i 0 fs) := by unfold ax_ce; rw [hsh]
  rw [he] at hw
  obtain ⟨⟨C1, T1, N1⟩, hr, -⟩ := hP n _ hw
  obtain ⟨hfN, hlk⟩ := hF _ hr
  have hin := (ax_u ci _ hr).1
  have hv : (ax_fs ad (σ k i) i 0 fs)[f]? = some (.ref (ad k' i)) := by rw [ax_fs_get, hf]; simp [ax_f1]
  have hk := kk p l e R s m args below meth c D cy ad H locs lsA C hl (List.forall_mem_cons.mpr ⟨Nat.lt_of_lt_of_le hs2.1 hcc, hs2.2⟩) hP hS
  obtain ⟨c1, c2, c3, c4, c5, c6, c7, c8, c9⟩ := C
  rcases hlk with h | ⟨host, h⟩
  · exact va_get c1 c2 c7 (fun w hw => List.mem_cons_of_mem _ (hin w hw)) c6 c8.1 hP n hw hr f hfN (c7 _ (List.mem_cons_of_mem _ h)) (fun _ z => z) hv hd hk
  · exact va_getN c1 c2 c7 (fun w hw => List.mem_cons_of_mem _ (hin w hw)) c6 c8.1 hP n hw hr f hfN (va_Nw.use (ax_nw_onTables h) (c8.2.1 _ h)) (fun _ z => z) hv hd hk
theorem aw_putI {idx ci k i f : Nat} {x : Int32} {fs : List (Option Nat)} (hd : decode M.2.1 pc = .ok (.putfield idx, 3)) (hq : pc + 3 = q) (hsh : ax_sh k = .inl (ci, fs)) (hf : fs[f]? = some none) (hF : ax_FL M.1.cls idx ci f) (hx : ax_PF ci f x) (kk : AW d M q ls st (rp σ k i (upd (σ k i) f x)) K) : AW d M pc ls (.inl x :: .inr (k, i) :: st) σ K := by
  subst hq
  intro p l e R s m args below meth c D cy ad H locs lsA C hl hs hP hS
  have hs2 := List.forall_mem_cons.mp (List.forall_mem_cons.mp hs).2
  obtain ⟨n, hn, hw⟩ := ax_w_get (cy := cy) (ad := ad) (σ := σ) (show i < ax_cnt k from hs2.1)
  have he : ax_ce cy ad (σ k i) k i = .inr (ci, ax_fs ad (σ k i) i 0 fs) := by unfold ax_ce; rw [hsh]
  rw [he] at hw
  obtain ⟨⟨C1, T1, N1⟩, hr, -⟩ := hP n _ hw
  obtain ⟨hfN, hlk⟩ := hF _ hr
  have hin := (ax_u ci _ hr).1
  obtain ⟨hfin, ty, hty, hnar, hfit⟩ := hx _ hr
  obtain ⟨⟨ty0, hty0⟩, hnm⟩ := (ax_u ci _ hr).2
  have hlen : f < (ax_fs ad (σ k i) i 0 fs).length := by rw [ax_fs_len]; exact (List.getElem?_eq_some_iff.mp hf).1
  have hset : (ax_w cy ad σ).set n (ad k i, .inr (ci, (ax_fs ad (σ k i) i 0 fs).set f (.int x))) = ax_w cy ad (rp σ k i (upd (σ k i) f x)) := by
    rw [← ax_w_set (cy := cy) (ad := ad) (upd (σ k i) f x) hn, ax_fs_set hf]
    unfold ax_ce
    rw [hsh]
  have hD := ax_D (cy := cy) (σ := σ) C.2.2.2.2.2.2.2.1.2.2
  have hk := fun H1 locs1 hP1 hS1 => kk p l e R s m args below meth c D cy ad H1 locs1 lsA C hl hs2.2 hP1 hS1
  obtain ⟨c1, c2, c3, c4, c5, c6, c7, c8, c9⟩ := C
  rcases hlk with h | ⟨host, h⟩
  · refine va_put (v := .int x) c1 c2 c7 (fun w hw => List.mem_cons_of_mem _ (hin w hw)) ty0 hty0 hnm c6 c8.1 hP hD hS n hw hr f hfN (c7 _ (List.mem_cons_of_mem _ h)) (fun _ z => z) hfin hty hnar hfit hlen hd (fun H1 locs1 hP1 hD1 hS1 => ?_)
    rw [hset] at hP1
    exact hk H1 locs1 hP1 hS1
  · refine va_putN (v := .int x) c1 c2 c7 (fun w hw => List.mem_cons_of_mem _ (hin w hw)) ty0 hty0 hnm c6 c8.1 hP hD hS n hw hr f hfN (va_Nw.use (ax_nw_onTables h) (c8.2.1 _ h)) (fun _ z => z) hfin hty hnar hfit hlen hd (fun H1 locs1 hP1 hD1 hS1 => ?_)
    rw [hset] at hP1
    exact hk H1 locs1 hP1 hS1
theorem aw_iald {k i n0 : Nat} {j : Int32} (hd : decode M.2.1 pc = .ok (.iaload, 1)) (hq : pc + 1 = q) (hsh : ax_sh k = .inr (.inl n0)) (hin : vp_in j n0) (kk : AW d M q ls (.inl (σ k i j.toNatClampNeg) :: st) σ K) : AW d M pc ls (.inl j :: .inr (k, i) :: st) σ K := by
  subst hq
  intro p l e R s m args below meth c D cy ad H locs lsA C hl hs hP hS
  have hs2 := List.forall_mem_cons.mp (List.forall_mem_cons.mp hs).2
  obtain ⟨n, hn, hw⟩ := ax_w_get (cy := cy) (ad := ad) (σ := σ) (show i < ax_cnt k from hs2.1)
  have he : ax_ce cy ad (σ k i) k i = .inl (cy 0, n0, .inl (σ k i)) := by unfold ax_ce; rw [hsh]
  rw [he] at hw
  exact va_iald C.1 C.2.1 C.2.2.2.2.2.2.2.1.1 hP n 0 hw rfl hin hd (kk p l e R s m args below meth c D cy ad H locs lsA C hl (List.forall_mem_cons.mpr ⟨trivial, hs2.2⟩) hP hS)
theorem aw_iast {k i n0 : Nat} {j x : Int32} (hd : decode M.2.1 pc = .ok (.iastore, 1)) (hq : pc + 1 = q) (hsh : ax_sh k = .inr (.inl n0)) (hin : vp_in j n0) (kk : AW d M q ls st (rp σ k i (upd (σ k i) j.toNatClampNeg x)) K) : AW d M pc ls (.inl x :: .inl j :: .inr (k, i) :: st) σ K := by
  subst hq
  intro p l e R s m args below meth c D cy ad H locs lsA C hl hs hP hS
  have hs2 := List.forall_mem_cons.mp (List.forall_mem_cons.mp (List.forall_mem_cons.mp hs).2).2
  obtain ⟨n, hn, hw⟩ := ax_w_get (cy := cy) (ad := ad) (σ := σ) (show i < ax_cnt k from hs2.1)
  have he : ∀ r, ax_ce cy ad r k i = .inl (cy 0, n0, .inl r) := by intro r; unfold ax_ce; rw [hsh]
  rw [he] at hw
  have hD := ax_D (cy := cy) (σ := σ) C.2.2.2.2.2.2.2.1.2.2
  refine va_iast C.1 C.2.1 C.2.2.2.2.2.2.2.1.1 hP hD hS n 0 hw rfl hin hd (fun H1 locs1 hP1 hD1 hS1 => ?_)
  rw [← he, ax_w_set _ hn] at hP1
  exact kk p l e R s m args below meth c D cy ad H1 locs1 lsA C hl hs2.2 hP1 hS1
theorem aw_aald {k k' i t : Nat} {j : Int32} (hd : decode M.2.1 pc = .ok (.aaload, 1)) (hq : pc + 1 = q) (hsh : ax_sh k = .inr (.inr (k', t))) (ht : t = 1 ∨ t = 2) (hin : vp_in j (ax_cnt k')) (kk : AW d M q ls (.inr (k', j.toNatClampNeg) :: st) σ K) : AW d M pc ls (.inl j :: .inr (k, i) :: st) σ K := by
  subst hq
  intro p l e R s m args below meth c D cy ad H locs lsA C hl hs hP hS
  have hs2 := List.forall_mem_cons.mp (List.forall_mem_cons.mp hs).2
  obtain ⟨n, hn, hw⟩ := ax_w_get (cy := cy) (ad := ad) (σ := σ) (show i < ax_cnt k from hs2.1)
  have he : ax_ce cy ad (σ k i) k i = .inl (cy t, ax_cnt k', .inr (.inr (.inr (.inr (fun j => some (ad k' j)))))) := by unfold ax_ce; rw [hsh]
  rw [he] at hw
  have hlt : j.toNatClampNeg < ax_cnt k' := Nat.not_le.mp fun q => hin (Or.inr q)
  have hk := kk p l e R s m args below meth c D cy ad H locs lsA C hl (List.forall_mem_cons.mpr ⟨hlt, hs2.2⟩) hP hS
  rcases ht with rfl | rfl
  · exact va_aldq (C := RX2) C.1 C.2.1 C.2.2.2.2.2.2.2.1.1 hP n 1 hw rfl hin hd hk
  · exact va_aldq (C := RX0) C.1 C.2.1 C.2.2.2.2.2.2.2.1.1 hP n 2 hw rfl hin hd hk
end AWheap
-- calls
theorem ax_lg (ad : AD) : ∀ (avs : List AV), (lg_sl (avs.map (ax_va ad))).length = avs.length
  | [] => rfl
  | v :: avs => by
    have h := ax_lg ad avs
    have hc := ax_va_cat ad v
    simp only [lg_sl, List.map_cons, List.flatMap_cons, hc, List.length_append, List.length_cons] at h ⊢
    simp at h ⊢
    omega
theorem ax_lvargs (ad : AD) : ∀ (avs : List AV) (j : Nat), lv_args j (avs.map (ax_va ad)) = ax_lv ad j (avs.map some)
  | [], _ => rfl
  | v :: avs, j => by
    have hc := ax_va_cat ad v
    simp only [List.map_cons, lv_args, ax_lv, hc]
    rw [if_neg (by decide), ax_lvargs ad avs (j + 1)]
def ax_en (M : ax_M) (avs : List AV) : List (Option AV) := avs.map some ++ List.replicate (M.2.2.1 - avs.length) none
def ax_rm (d : Nat) : Room := { frames := d, cells := 0, slots := 0, locals := 64 * d }
def ax_B (D : va_G) (cy : Nat → ClassId) (ad : AD) (σ : SS) : State → Prop := fun U => va_P D ax_cl (ax_w cy ad σ) U.heap ∧ ax_St D cy ad U
theorem ax_met (l : Launch) (D : va_G) (cy : Nat → ClassId) (ad : AD) {d : Nat} {M : ax_M} {avs : List AV} {σ : SS} {K : ax_K} (hy : plainName M.1.cls = true) (hn : avs.length ≤ M.2.2.1) (hok : ∀ v ∈ avs, ax_ok v) (h : AW d M 0 (ax_en M avs) [] σ K) : Met l M.1 (ax_ws M) (ax_rm d) (va_Pc (avs.map (ax_va ad)) (ax_B D cy ad σ)) (ax_Q D cy ad K) 0 0 (ax_A ad) := by
  refine Met.ofW (cc := M.2.1) (maxL := M.2.2.1) (ret := M.2.2.2) hy rfl ?_
  intro p e s m args below meth c s₁ B hml hv
  obtain ⟨rfl, hP, hSt⟩ := hv
  have hts := atoms_spec (ws := ax_ws M) B.pre
  have hl := lv_entry (avs.map (ax_va ad)) (n := M.2.2.1) (by rw [ax_lg]; exact hn)
  rw [lg_entry_eq]
  generalize (lg_sl (avs.map (ax_va ad)) ++ List.replicate (M.2.2.1 - (lg_sl (avs.map (ax_va ad))).length) Slot.unset).toArray = lsA at hl ⊢
  rw [ax_lvargs] at hl
  refine h p l e _ s m _ below meth c D cy ad s.heap [] lsA ⟨B.exec, B.bytes, B.returns, hml, B.notSynchronized, findClass_of_methodNamed B.named, hts, hSt, Nat.le_refl _, Nat.le_refl _⟩ ⟨⟨hl.1, hl.2.1, fun q hq => hl.2.2 q ?_⟩, fun v hv => ?_⟩ (fun _ h => by cases h) hP va_S.rf
  · obtain ⟨n, v, hn2, rfl⟩ := (ax_lv_mem _ 0).mp hq
    refine (ax_lv_mem _ 0).mpr ⟨n, v, ?_, rfl⟩
    unfold ax_en at hn2
    by_cases hlt : n < (avs.map some).length
    · rwa [List.getElem?_append_left hlt] at hn2
    · rw [List.getElem?_append_right (by omega)] at hn2
      have := List.eq_of_mem_replicate (List.mem_of_getElem? hn2)
      cases this
  · unfold ax_en at hv
    rcases List.mem_append.mp hv with h1 | h1
    · obtain ⟨w, hw, e⟩ := List.mem_map.mp h1
      cases e
      exact hok _ hw
    · have := List.eq_of_mem_replicate h1
      cases this
theorem ax_B.blind {D : va_G} {cy : Nat → ClassId} {ad : AD} {σ : SS} {av : List Value} : FrameBlind (va_Pc av (ax_B D cy ad σ)) := by
  intro a U g mk h
  obtain ⟨h1, h2, h3, h4, h5⟩ := h
  exact ⟨h1, h2, va_K.moved (u := U) (U := U.calling g mk a) (Vm.Alike.refl U.vm) h3, fun w hw => va_Nw.same (ax_nw_onTables hw) (u := U) (U := U.calling g mk a) rfl (h4 w hw), h5⟩
section AWcall
variable {p : Program} {l : Launch} {e : Env} {R : Room} {s : State} {m : MethodId} {args : Array Value} {below : List Frame} {meth : Method} {c : Code} {H : Heap} {locs : List Loc} {Q : State → Prop} {D : va_G} {cy : Nat → ClassId} {ad : AD} {A0 : Nat → Prop} {H0 : Heap} {cells slots : Nat}
theorem ax_call {pc : Nat} {lsA : Array Slot} {st0 rest : List Value} {K' : ax_K} {a : Array Value} (hr : va_Run p l e R s m args below meth c H locs cells slots 0 0 (F0 m pc lsA st0) rest (ax_Q D cy ad K' a) (ax_A ad)) (hA : ∀ q, ax_A ad q → A0 q) (hS : va_S A0 H0 H locs)
    (kk : ∀ (r : Option Int32) (σ' : SS) (H1 : Heap) (locs1 : List Loc), K' r σ' → va_P D ax_cl (ax_w cy ad σ') H1 → va_S A0 H0 H1 locs1 → W p l e R s m args below meth c H1 locs1 cells slots Q (F0 m (pc + 3) lsA ((r.map Value.int).toList ++ rest))) : W p l e R s m args below meth c H locs cells slots Q (F0 m pc lsA st0) := by
  intro T hT X
  obtain ⟨v, st₀, t, T', L, h0, X', hL, e1, e2, ⟨⟨r, σ', hv, hk, hp⟩, hz, hkk⟩, stp⟩ := hr T hT X
  cases hv
  rw [h0] at hz hkk
  obtain ⟨t2, a1, b1⟩ := kk r σ' T'.heap (locs ++ L) hk (by rw [e1]; exact hp)
    ⟨Nat.le_trans hS.1 (by rw [e1]; exact hz), fun q h1 h2 => by rw [e1, hkk q (Nat.lt_of_lt_of_le h1 hS.1) (fun z => h2 (hA q z))]; exact hS.2.1 q h1 h2, fun q hq => by
      rcases List.mem_append.mp hq with h | h
      · exact hS.2.2 q h
      · exact hA _ (hL q h)⟩ T' rfl X'
  exact ⟨t2, stp t2 a1, b1⟩
end AWcall
/-- a link to a method, from its own class or from a nest mate -/
def ax_LK (own : String) (idx : Nat) (y : MethodName) : Prop := Cond.methodLink own idx y ∈ ax_GW ∨ ∃ host, Cond.methodLinkNest own idx y host ∈ ax_NW
/-- a method that may be called, of n arguments -/
def ax_GM (M : ax_M) (n : Nat) : Prop := ax_cw M ∈ ax_GW ∧ Cond.initialized M.1.cls ∈ ax_GW ∧ plainName M.1.cls = true ∧ (M.1.cls ≠ "java/lang/invoke/MethodHandle" ∧ M.1.cls ≠ "java/lang/invoke/VarHandle" ∧ (parseMethodDescriptor M.1.desc).map (fun d => d.parameters.length) = some n) ∧ M.2.2.1 ≤ 44
def ax_GV (M : ax_M) (n : Nat) : Prop := ax_GM M n ∧ Cond.instanceMethod M.1 ∈ ax_GW ∧ Cond.selects M.1.cls M.1 M.1 ∈ ax_GW ∧ n + 1 ≤ M.2.2.1
def ax_GS (M : ax_M) (n : Nat) : Prop := ax_GM M n ∧ Cond.static M.1 ∈ ax_GW ∧ n ≤ M.2.2.1
def ax_k (r : Option Int32) (f : List AV → Prop) (st : List AV) : Prop := match r with
  | some v => f (.inl v :: st)
  | none => f st
theorem ax_sum (ad : AD) : ∀ (st : List AV), ((st.map (ax_va ad)).map fun v => v.category).sum = st.length
  | [] => rfl
  | v :: st => by
    have hc := ax_va_cat ad v
    have h := ax_sum ad st
    simp only [List.map_cons, List.sum_cons, hc, List.length_cons]
    omega
section AWcalls
variable {d : Nat} {M M' : ax_M} {pc q : Nat} {ls : List (Option AV)} {st : List AV} {σ : SS} {K : ax_K}
theorem aw_callV {idx k i ci n : Nat} {T : u_T} {N : Nat} {fs : List (Option Nat)} (as st0 : List AV) (hd : decode M.2.1 pc = .ok (.invokevirtual idx, 3)) (hq : pc + 3 = q) (hL : ax_LK M.1.cls idx M'.1) (hG : ax_GV M' n) (hn : as.length = n) (hsh : ax_sh k = .inl (ci, fs)) (hcl : ax_cl[ci]? = some (M'.1.cls, T, N)) (hst : st0 = as.reverse ++ .inr (k, i) :: st) (h8 : st.length ≤ 8)
    (hb : AW d M' 0 (ax_en M' (.inr (k, i) :: as)) [] σ (fun r σ' => ax_k r (fun st' => AW (d + 1) M q ls st' σ' K) st)) : AW (d + 1) M pc ls st0 σ K := by
  subst hq; subst hst; subst hn
  intro p l e R s m args below meth c D cy ad H locs lsA C hl hs hP hS
  have hsa : ∀ v ∈ as, ax_ok v := fun v hv => hs v (List.mem_append_left _ (List.mem_reverse.mpr hv))
  have hsr := List.forall_mem_cons.mp (fun v hv => hs v (List.mem_append_right _ hv))
  have hmap : (as.reverse ++ Sum.inr (k, i) :: st).map (ax_va ad) = (as.map (ax_va ad)).reverse ++ Value.ref (ad k i) :: st.map (ax_va ad) := by simp [ax_va]
  rw [hmap]
  obtain ⟨⟨g1, g2, g3, g4, g5⟩, g6, g7, g8⟩ := hG
  have hM := ax_met l D cy ad g3 (by simpa using g8) (List.forall_mem_cons.mpr ⟨hsr.1, hsa⟩) hb
  obtain ⟨x, hx, hw⟩ := ax_w_get (cy := cy) (ad := ad) (σ := σ) (show i < ax_cnt k from hsr.1)
  have he : ax_ce cy ad (σ k i) k i = .inr (ci, ax_fs ad (σ k i) i 0 fs) := by unfold ax_ce; rw [hsh]
  rw [he] at hw
  have hrecv := va_recv C.2.2.2.2.2.2.2.1.1 hP hcl hw
  have hC := C
  obtain ⟨c1, c2, c3, c4, c5, c6, c7, c8, c9, c10⟩ := C
  have hpre : PreV s H M'.1.cls (ad k i) (va_Pc ((Sum.inr (k, i) :: as).map (ax_va ad)) (ax_B D cy ad σ)) (as.map (ax_va ad)) := ⟨ax_B.blind, hrecv, fun U hU hW => ⟨rfl, by rw [hU]; exact hP, c8.warm hW⟩⟩
  have hR : (ax_rm d).frames + 1 ≤ R.frames ∧ 8 + (M'.2.2.1 + 11) + (ax_rm d).locals ≤ R.locals := ⟨c9, by show 8 + (M'.2.2.1 + 11) + 64 * d ≤ R.locals; omega⟩
  have hgo : ∀ (hr : va_Run p l e R s m args below meth c H locs 0 0 0 0 (F0 m pc lsA ((as.map (ax_va ad)).reverse ++ Value.ref (ad k i) :: st.map (ax_va ad))) (st.map (ax_va ad)) (ax_Q D cy ad (fun r σ' => ax_k r (fun st' => AW (d + 1) M (pc + 3) ls st' σ' K) st) (Value.ref (ad k i) :: as.map (ax_va ad)).toArray) (ax_A ad)), W p l e R s m args below meth c H locs 0 0 (MQ below (ax_Q D cy ad K) args s 0 0 (ax_A ad)) (F0 m pc lsA ((as.map (ax_va ad)).reverse ++ Value.ref (ad k i) :: st.map (ax_va ad))) := by
    intro hr
    refine ax_call hr (fun _ h => h) hS (fun r σ' H1 locs1 hk hP1 hS1 => ?_)
    cases r with
    | none => exact hk p l e R s m args below meth c D cy ad H1 locs1 lsA hC hl hsr.2 hP1 hS1
    | some v => exact hk p l e R s m args below meth c D cy ad H1 locs1 lsA hC hl (List.forall_mem_cons.mpr ⟨trivial, hsr.2⟩) hP1 hS1
  have hroom : (((st.map (ax_va ad)).map fun v => v.category).sum) ≤ 8 := by rw [ax_sum]; exact h8
  rcases hL with hlk | ⟨host, hlk⟩
  · exact hgo (va_runV ⟨c1, c2, c4, c6, c7⟩ hM ⟨callB_of as.length c7 (ax_good g1) rfl rfl rfl (c7 _ (List.mem_cons_of_mem _ g2)) (c7 _ (List.mem_cons_of_mem _ hlk)) g4 hR, c7 _ (List.mem_cons_of_mem _ g6), c7 _ (List.mem_cons_of_mem _ g7)⟩ hpre rfl (by simp) hl.1.1 rfl (lv_room hroom) hd ⟨Nat.zero_le _, Nat.zero_le _⟩)
  · exact hgo (va_runVN ⟨c1, c2, c4, c6, c7⟩ hM ⟨va_cnB as.length c7 (ax_good g1) rfl rfl rfl (c8.2.1 _ hlk) (c7 _ (List.mem_cons_of_mem _ g2)) g4 hR, c7 _ (List.mem_cons_of_mem _ g6), c7 _ (List.mem_cons_of_mem _ g7)⟩ hpre rfl (by simp) hl.1.1 rfl (lv_room hroom) hd ⟨Nat.zero_le _, Nat.zero_le _⟩)
theorem aw_callS {idx n : Nat} (as st0 : List AV) (hd : decode M.2.1 pc = .ok (.invokestatic idx, 3)) (hq : pc + 3 = q) (hL : ax_LK M.1.cls idx M'.1) (hG : ax_GS M' n) (hn : as.length = n) (hst : st0 = as.reverse ++ st) (h8 : st.length ≤ 8)
    (hb : AW d M' 0 (ax_en M' as) [] σ (fun r σ' => ax_k r (fun st' => AW (d + 1) M q ls st' σ' K) st)) : AW (d + 1) M pc ls st0 σ K := by
  subst hq; subst hst; subst hn
  intro p l e R s m args below meth c D cy ad H locs lsA C hl hs hP hS
  have hsa : ∀ v ∈ as, ax_ok v := fun v hv => hs v (List.mem_append_left _ (List.mem_reverse.mpr hv))
  have hsr : ∀ v ∈ st, ax_ok v := fun v hv => hs v (List.mem_append_right _ hv)
  have hmap : (as.reverse ++ st).map (ax_va ad) = (as.map (ax_va ad)).reverse ++ st.map (ax_va ad) := by simp
  rw [hmap]
  obtain ⟨⟨g1, g2, g3, g4, g5⟩, g6, g8⟩ := hG
  have hM := ax_met l D cy ad g3 g8 hsa hb
  have hC := C
  obtain ⟨c1, c2, c3, c4, c5, c6, c7, c8, c9, c10⟩ := C
  have hpre : PreS s H (va_Pc (as.map (ax_va ad)) (ax_B D cy ad σ)) (as.map (ax_va ad)) := ⟨ax_B.blind, fun U hU hW => ⟨rfl, by rw [hU]; exact hP, c8.warm hW⟩⟩
  have hR : (ax_rm d).frames + 1 ≤ R.frames ∧ 8 + (M'.2.2.1 + 11) + (ax_rm d).locals ≤ R.locals := ⟨c9, by show 8 + (M'.2.2.1 + 11) + 64 * d ≤ R.locals; omega⟩
  have hgo : ∀ (hr : va_Run p l e R s m args below meth c H locs 0 0 0 0 (F0 m pc lsA ((as.map (ax_va ad)).reverse ++ st.map (ax_va ad))) (st.map (ax_va ad)) (ax_Q D cy ad (fun r σ' => ax_k r (fun st' => AW (d + 1) M (pc + 3) ls st' σ' K) st) (as.map (ax_va ad)).toArray) (ax_A ad)), W p l e R s m args below meth c H locs 0 0 (MQ below (ax_Q D cy ad K) args s 0 0 (ax_A ad)) (F0 m pc lsA ((as.map (ax_va ad)).reverse ++ st.map (ax_va ad))) := by
    intro hr
    refine ax_call hr (fun _ h => h) hS (fun r σ' H1 locs1 hk hP1 hS1 => ?_)
    cases r with
    | none => exact hk p l e R s m args below meth c D cy ad H1 locs1 lsA hC hl hsr hP1 hS1
    | some v => exact hk p l e R s m args below meth c D cy ad H1 locs1 lsA hC hl (List.forall_mem_cons.mpr ⟨trivial, hsr⟩) hP1 hS1
  have hroom : (((st.map (ax_va ad)).map fun v => v.category).sum) ≤ 8 := by rw [ax_sum]; exact h8
  rcases hL with hlk | ⟨host, hlk⟩
  · exact hgo (va_runS ⟨c1, c2, c4, c6, c7⟩ hM ⟨callB_of as.length c7 (ax_good g1) rfl rfl rfl (c7 _ (List.mem_cons_of_mem _ g2)) (c7 _ (List.mem_cons_of_mem _ hlk)) g4 hR, c7 _ (List.mem_cons_of_mem _ g6)⟩ hpre rfl (by simp) hl.1.1 rfl (lv_room hroom) hd ⟨Nat.zero_le _, Nat.zero_le _⟩)
  · exact hgo (va_runSN ⟨c1, c2, c4, c6, c7⟩ hM ⟨va_cnB as.length c7 (ax_good g1) rfl rfl rfl (c8.2.1 _ hlk) (c7 _ (List.mem_cons_of_mem _ g2)) g4 hR, c7 _ (List.mem_cons_of_mem _ g6), trivial⟩ hpre rfl (by simp) hl.1.1 rfl (lv_room hroom) hd ⟨Nat.zero_le _, Nat.zero_le _⟩)
theorem aw_V0 {idx k i ci : Nat} {T : u_T} {N : Nat} {fs : List (Option Nat)} (hd : decode M.2.1 pc = .ok (.invokevirtual idx, 3)) (hq : pc + 3 = q) (hL : ax_LK M.1.cls idx M'.1) (hG : ax_GV M' 0) (hsh : ax_sh k = .inl (ci, fs)) (hcl : ax_cl[ci]? = some (M'.1.cls, T, N)) (h8 : st.length ≤ 8)
    (hb : AW d M' 0 (ax_en M' [.inr (k, i)]) [] σ (fun r σ' => ax_k r (fun st' => AW (d + 1) M q ls st' σ' K) st)) : AW (d + 1) M pc ls (.inr (k, i) :: st) σ K := aw_callV [] _ hd hq hL hG rfl hsh hcl rfl h8 hb
theorem aw_V1 {idx k i ci : Nat} {T : u_T} {N : Nat} {fs : List (Option Nat)} {v1 : AV} (hd : decode M.2.1 pc = .ok (.invokevirtual idx, 3)) (hq : pc + 3 = q) (hL : ax_LK M.1.cls idx M'.1) (hG : ax_GV M' 1) (hsh : ax_sh k = .inl (ci, fs)) (hcl : ax_cl[ci]? = some (M'.1.cls, T, N)) (h8 : st.length ≤ 8)
    (hb : AW d M' 0 (ax_en M' [.inr (k, i), v1]) [] σ (fun r σ' => ax_k r (fun st' => AW (d + 1) M q ls st' σ' K) st)) : AW (d + 1) M pc ls (v1 :: .inr (k, i) :: st) σ K := aw_callV [v1] _ hd hq hL hG rfl hsh hcl rfl h8 hb
theorem aw_V2 {idx k i ci : Nat} {T : u_T} {N : Nat} {fs : List (Option Nat)} {v1 v2 : AV} (hd : decode M.2.1 pc = .ok (.invokevirtual idx, 3)) (hq : pc + 3 = q) (hL : ax_LK M.1.cls idx M'.1) (hG : ax_GV M' 2) (hsh : ax_sh k = .inl (ci, fs)) (hcl : ax_cl[ci]? = some (M'.1.cls, T, N)) (h8 : st.length ≤ 8)
    (hb : AW d M' 0 (ax_en M' [.inr (k, i), v1, v2]) [] σ (fun r σ' => ax_k r (fun st' => AW (d + 1) M q ls st' σ' K) st)) : AW (d + 1) M pc ls (v2 :: v1 :: .inr (k, i) :: st) σ K := aw_callV [v1, v2] _ hd hq hL hG rfl hsh hcl rfl h8 hb
theorem aw_V3 {idx k i ci : Nat} {T : u_T} {N : Nat} {fs : List (Option Nat)} {v1 v2 v3 : AV} (hd : decode M.2.1 pc = .ok (.invokevirtual idx, 3)) (hq : pc + 3 = q) (hL : ax_LK M.1.cls idx M'.1) (hG : ax_GV M' 3) (hsh : ax_sh k = .inl (ci, fs)) (hcl : ax_cl[ci]? = some (M'.1.cls, T, N)) (h8 : st.length ≤ 8)
    (hb : AW d M' 0 (ax_en M' [.inr (k, i), v1, v2, v3]) [] σ (fun r σ' => ax_k r (fun st' => AW (d + 1) M q ls st' σ' K) st)) : AW (d + 1) M pc ls (v3 :: v2 :: v1 :: .inr (k, i) :: st) σ K := aw_callV [v1, v2, v3] _ hd hq hL hG rfl hsh hcl rfl h8 hb
theorem aw_S1 {idx : Nat} {v1 : AV} (hd : decode M.2.1 pc = .ok (.invokestatic idx, 3)) (hq : pc + 3 = q) (hL : ax_LK M.1.cls idx M'.1) (hG : ax_GS M' 1) (h8 : st.length ≤ 8)
    (hb : AW d M' 0 (ax_en M' [v1]) [] σ (fun r σ' => ax_k r (fun st' => AW (d + 1) M q ls st' σ' K) st)) : AW (d + 1) M pc ls (v1 :: st) σ K := aw_callS [v1] _ hd hq hL hG rfl rfl h8 hb
theorem aw_S2 {idx : Nat} {v1 v2 : AV} (hd : decode M.2.1 pc = .ok (.invokestatic idx, 3)) (hq : pc + 3 = q) (hL : ax_LK M.1.cls idx M'.1) (hG : ax_GS M' 2) (h8 : st.length ≤ 8)
    (hb : AW d M' 0 (ax_en M' [v1, v2]) [] σ (fun r σ' => ax_k r (fun st' => AW (d + 1) M q ls st' σ' K) st)) : AW (d + 1) M pc ls (v2 :: v1 :: st) σ K := aw_callS [v1, v2] _ hd hq hL hG rfl rfl h8 hb
theorem aw_S3 {idx : Nat} {v1 v2 v3 : AV} (hd : decode M.2.1 pc = .ok (.invokestatic idx, 3)) (hq : pc + 3 = q) (hL : ax_LK M.1.cls idx M'.1) (hG : ax_GS M' 3) (h8 : st.length ≤ 8)
    (hb : AW d M' 0 (ax_en M' [v1, v2, v3]) [] σ (fun r σ' => ax_k r (fun st' => AW (d + 1) M q ls st' σ' K) st)) : AW (d + 1) M pc ls (v3 :: v2 :: v1 :: st) σ K := aw_callS [v1, v2, v3] _ hd hq hL hG rfl rfl h8 hb
theorem aw_S4 {idx : Nat} {v1 v2 v3 v4 : AV} (hd : decode M.2.1 pc = .ok (.invokestatic idx, 3)) (hq : pc + 3 = q) (hL : ax_LK M.1.cls idx M'.1) (hG : ax_GS M' 4) (h8 : st.length ≤ 8)
    (hb : AW d M' 0 (ax_en M' [v1, v2, v3, v4]) [] σ (fun r σ' => ax_k r (fun st' => AW (d + 1) M q ls st' σ' K) st)) : AW (d + 1) M pc ls (v4 :: v3 :: v2 :: v1 :: st) σ K := aw_callS [v1, v2, v3, v4] _ hd hq hL hG rfl rfl h8 hb
end AWcalls
end
section
/-! ===== methods, links, fields, by their words ===== -/
def mX3_tank : ax_M := (yX3_tank, cX3_tank, 6, (some .int))
def mX3_within : ax_M := (yX3_within, cX3_within, 3, (some .boolean))
def mX3_neighbours : ax_M := (yX3_neighbours, cX3_neighbours, 4, (some .int))
def mX3_areTwoTanks : ax_M := (yX3_areTwoTanks, cX3_areTwoTanks, 3, (some .boolean))
def mX3_isTank : ax_M := (yX3_isTank, cX3_isTank, 2, (some .boolean))
def mX3_has : ax_M := (yX3_has, cX3_has, 2, (some .boolean))
def mX3_latest : ax_M := (yX3_latest, cX3_latest, 5, (some .int))
def mX3_isLiquid : ax_M := (yX3_isLiquid, cX3_isLiquid, 1, (some .boolean))
def mX3_cargo : ax_M := (yX3_cargo, cX3_cargo, 9, (some .int))
def mX3_isAmount : ax_M := (yX3_isAmount, cX3_isAmount, 1, (some .boolean))
def mX3_isLiquidSet : ax_M := (yX3_isLiquidSet, cX3_isLiquidSet, 1, (some .boolean))
def mX3_uncargo : ax_M := (yX3_uncargo, cX3_uncargo, 3, (some .int))
def mX3_tanksThatHold : ax_M := (yX3_tanksThatHold, cX3_tanksThatHold, 4, (some .int))
def mX3_amount : ax_M := (yX3_amount, cX3_amount, 4, (some .int))
def mX3_isCargo : ax_M := (yX3_isCargo, cX3_isCargo, 2, (some .boolean))
def mX3_washes : ax_M := (yX3_washes, cX3_washes, 6, (some .int))
def mX3_bound : ax_M := (yX3_bound, cX3_bound, 3, (some .int))
def mX3_ofTank : ax_M := (yX3_ofTank, cX3_ofTank, 4, (some .int))
def mX3_ofCargo : ax_M := (yX3_ofCargo, cX3_ofCargo, 4, (some .int))
def mX3_tanksThatSuit : ax_M := (yX3_tanksThatSuit, cX3_tanksThatSuit, 4, (some .int))
def mX3_faults : ax_M := (yX3_faults, cX3_faults, 5, (some .int))
def mX3_cargoesThatClash : ax_M := (yX3_cargoesThatClash, cX3_cargoesThatClash, 4, (some .int))
def mX3_clash : ax_M := (yX3_clash, cX3_clash, 2, (some .boolean))
def mX3_needs : ax_M := (yX3_needs, cX3_needs, 3, (some .int))
def mX3_washesNeeded : ax_M := (yX3_washesNeeded, cX3_washesNeeded, 4, (some .int))
def mX3_why : ax_M := (yX3_why, cX3_why, 3, (some .int))
def mX3_plan : ax_M := (yX3_plan, cX3_plan, 4, (some .int))
def mX3_broken : ax_M := (yX3_broken, cX3_broken, 2, (some .int))
def mX3_isCargoSet : ax_M := (yX3_isCargoSet, cX3_isCargoSet, 2, (some .boolean))
def mX3_toldGoesBeyond : ax_M := (yX3_toldGoesBeyond, cX3_toldGoesBeyond, 3, (some .boolean))
def mX3_toldDoesNotSuit : ax_M := (yX3_toldDoesNotSuit, cX3_toldDoesNotSuit, 3, (some .boolean))
def mX3_toldClashes : ax_M := (yX3_toldClashes, cX3_toldClashes, 5, (some .boolean))
def mX3_stowTold : ax_M := (yX3_stowTold, cX3_stowTold, 3, none)
def mJ9_min_7cf53 : ax_M := (yJ9_min_7cf53, cJ9_min_7cf53, 2, (some .int))
def mX3_toldLeavesSomeOf : ax_M := (yX3_toldLeavesSomeOf, cX3_toldLeavesSomeOf, 3, (some .boolean))
def mX3_toldLeavesTankEmpty : ax_M := (yX3_toldLeavesTankEmpty, cX3_toldLeavesTankEmpty, 2, (some .boolean))
def mX3_toldList : ax_M := (yX3_toldList, cX3_toldList, 3, (some .int))
def mJ9_abs_0f7a4 : ax_M := (yJ9_abs_0f7a4, cJ9_abs_0f7a4, 1, (some .int))
def mX3_ofPlan : ax_M := (yX3_ofPlan, cX3_ofPlan, 2, (some .int))
def mX3_toldCost : ax_M := (yX3_toldCost, cX3_toldCost, 4, (some .int))
def mX3_toldTanks : ax_M := (yX3_toldTanks, cX3_toldTanks, 3, (some .int))
def mX3_best : ax_M := (yX3_best, cX3_best, 4, (some .int))
def mX3_searchIfStale : ax_M := (yX3_searchIfStale, cX3_searchIfStale, 2, none)
def mX3_noteCargoes : ax_M := (yX3_noteCargoes, cX3_noteCargoes, 2, none)
def mX3_noteTanks : ax_M := (yX3_noteTanks, cX3_noteTanks, 5, none)
def mX3_tryTank : ax_M := (yX3_tryTank, cX3_tryTank, 8, none)
def mX1_keepIfBetter : ax_M := (yX1_keepIfBetter, cX1_keepIfBetter, 7, none)
def mX1_openTo : ax_M := (yX1_openTo, cX1_openTo, 4, (some .int))
def mX3_taken : ax_M := (yX3_taken, cX3_taken, 1, (some .int))
def mX3_takenSet : ax_M := (yX3_takenSet, cX3_takenSet, 7, (some .int))
def mX3_amountsOf : ax_M := (yX3_amountsOf, cX3_amountsOf, 4, (some .int))
def mJ6_bitCount_0f7a4 : ax_M := (yJ6_bitCount_0f7a4, cJ6_bitCount_0f7a4, 1, (some .int))
def mX3_load : ax_M := (yX3_load, cX3_load, 3, (some .int))
def mX3_tanksInUse : ax_M := (yX3_tanksInUse, cX3_tanksInUse, 1, (some .int))
def mX3_unload : ax_M := (yX3_unload, cX3_unload, 4, (some .int))
def mX2_leaveEmpty : ax_M := (yX2_leaveEmpty, cX2_leaveEmpty, 2, none)
def mX3_pour : ax_M := (yX3_pour, cX3_pour, 7, (some .int))
def mX3_mayComeInto : ax_M := (yX3_mayComeInto, cX3_mayComeInto, 5, (some .boolean))
def mX3_many : ax_M := (yX3_many, cX3_many, 2, (some .int))
def mX3_heldList : ax_M := (yX3_heldList, cX3_heldList, 3, (some .int))
def mX4_tank : ax_M := (yX4_tank, cX4_tank, 4, (some .int))
def mX4_within : ax_M := (yX4_within, cX4_within, 3, (some .boolean))
def mX4_neighbours : ax_M := (yX4_neighbours, cX4_neighbours, 4, (some .int))
def mX4_areTwo : ax_M := (yX4_areTwo, cX4_areTwo, 3, (some .boolean))
def mX4_isTank : ax_M := (yX4_isTank, cX4_isTank, 2, (some .boolean))
def mX4_has : ax_M := (yX4_has, cX4_has, 2, (some .boolean))
def mX4_latest : ax_M := (yX4_latest, cX4_latest, 5, (some .int))
def mX4_isLiquid : ax_M := (yX4_isLiquid, cX4_isLiquid, 1, (some .boolean))
def mX4_cargo : ax_M := (yX4_cargo, cX4_cargo, 7, (some .int))
def mX4_isSet : ax_M := (yX4_isSet, cX4_isSet, 1, (some .boolean))
def mX4_uncargo : ax_M := (yX4_uncargo, cX4_uncargo, 2, (some .int))
def mX4_holders : ax_M := (yX4_holders, cX4_holders, 4, (some .int))
def mX4_amount : ax_M := (yX4_amount, cX4_amount, 4, (some .int))
def mX4_isCargo : ax_M := (yX4_isCargo, cX4_isCargo, 2, (some .boolean))
def mX4_washes : ax_M := (yX4_washes, cX4_washes, 5, (some .int))
def mX4_bound : ax_M := (yX4_bound, cX4_bound, 3, (some .int))
def mX4_ofTank : ax_M := (yX4_ofTank, cX4_ofTank, 3, (some .int))
def mX4_ofCargo : ax_M := (yX4_ofCargo, cX4_ofCargo, 3, (some .int))
def mX4_suited : ax_M := (yX4_suited, cX4_suited, 4, (some .int))
def mX4_whyNot : ax_M := (yX4_whyNot, cX4_whyNot, 6, (some .int))
def mX4_clashes : ax_M := (yX4_clashes, cX4_clashes, 4, (some .int))
def mX4_doClash : ax_M := (yX4_doClash, cX4_doClash, 3, (some .boolean))
def mX4_needs : ax_M := (yX4_needs, cX4_needs, 3, (some .int))
def mX4_washesFor : ax_M := (yX4_washesFor, cX4_washesFor, 4, (some .int))
def mX4_why : ax_M := (yX4_why, cX4_why, 3, (some .int))
def mX4_plan : ax_M := (yX4_plan, cX4_plan, 4, (some .int))
def mX4_broken : ax_M := (yX4_broken, cX4_broken, 2, (some .int))
def mX4_isSetOfCargoes : ax_M := (yX4_isSetOfCargoes, cX4_isSetOfCargoes, 2, (some .boolean))
def mX4_triesPlan : ax_M := (yX4_triesPlan, cX4_triesPlan, 2, none)
def mX4_brokenBy : ax_M := (yX4_brokenBy, cX4_brokenBy, 3, (some .int))
def mX4_hasOther : ax_M := (yX4_hasOther, cX4_hasOther, 4, (some .boolean))
def mX4_hasUnfit : ax_M := (yX4_hasUnfit, cX4_hasUnfit, 3, (some .boolean))
def mX4_hasClash : ax_M := (yX4_hasClash, cX4_hasClash, 4, (some .boolean))
def mX4_hasTooMuch : ax_M := (yX4_hasTooMuch, cX4_hasTooMuch, 6, (some .boolean))
def mX4_fills : ax_M := (yX4_fills, cX4_fills, 4, none)
def mX4_hasEmpty : ax_M := (yX4_hasEmpty, cX4_hasEmpty, 3, (some .boolean))
def mX4_listOf : ax_M := (yX4_listOf, cX4_listOf, 3, (some .int))
def mX4_ofPlan : ax_M := (yX4_ofPlan, cX4_ofPlan, 2, (some .int))
def mX4_costOf : ax_M := (yX4_costOf, cX4_costOf, 3, (some .int))
def mX4_usedOf : ax_M := (yX4_usedOf, cX4_usedOf, 3, (some .int))
def mX4_best : ax_M := (yX4_best, cX4_best, 4, (some .int))
def mX4_findBest : ax_M := (yX4_findBest, cX4_findBest, 5, none)
def mX4_lays : ax_M := (yX4_lays, cX4_lays, 5, none)
def mX4_keepsBest : ax_M := (yX4_keepsBest, cX4_keepsBest, 4, none)
def mX4_triesBest : ax_M := (yX4_triesBest, cX4_triesBest, 2, none)
def mX4_taken : ax_M := (yX4_taken, cX4_taken, 3, (some .int))
def mX4_isBetter : ax_M := (yX4_isBetter, cX4_isBetter, 4, (some .boolean))
def mX4_amountsOf : ax_M := (yX4_amountsOf, cX4_amountsOf, 4, (some .int))
def mX4_sizeOf : ax_M := (yX4_sizeOf, cX4_sizeOf, 3, (some .int))
def mX4_load : ax_M := (yX4_load, cX4_load, 4, (some .int))
def mX4_unload : ax_M := (yX4_unload, cX4_unload, 4, (some .int))
def mX4_empties : ax_M := (yX4_empties, cX4_empties, 2, none)
def mX4_pour : ax_M := (yX4_pour, cX4_pour, 6, (some .int))
def mX4_mayTake : ax_M := (yX4_mayTake, cX4_mayTake, 5, (some .boolean))
def mX4_many : ax_M := (yX4_many, cX4_many, 2, (some .int))
def mX4_heldList : ax_M := (yX4_heldList, cX4_heldList, 3, (some .int))
theorem gm_abs : Cond.static Lib.Math.abs.name ∈ ax_GW ∧ Cond.initialized "java/lang/Math" ∈ ax_GW ∧ Cond.code Lib.Math.abs.name Lib.Math.abs.code 1 (some .int) ∈ ax_GW := ⟨ax_gw 410 (by decide +kernel) rfl, ax_gw 65 (by decide +kernel) rfl, ax_gw 411 (by decide +kernel) rfl⟩
theorem gm_min : Cond.static Lib.Math.min.name ∈ ax_GW ∧ Cond.initialized "java/lang/Math" ∈ ax_GW ∧ Cond.code Lib.Math.min.name Lib.Math.min.code 2 (some .int) ∈ ax_GW := ⟨ax_gw 395 (by decide +kernel) rfl, ax_gw 65 (by decide +kernel) rfl, ax_gw 396 (by decide +kernel) rfl⟩
theorem aw_mabs {d : Nat} {M : ax_M} {pc q : Nat} {ls : List (Option AV)} {st : List AV} {σ : SS} {K : ax_K} {idx : Nat} {x : Int32} (hd : decode M.2.1 pc = .ok (.invokestatic idx, 3)) (hq : pc + 3 = q) (hL : Cond.methodLink M.1.cls idx Lib.Math.abs.name ∈ ax_GW) (h8 : st.length ≤ 8) (kk : AW (d + 1) M q ls (.inl (if 0 ≤ x then x else 0 - x) :: st) σ K) : AW (d + 1) M pc ls (.inl x :: st) σ K := by
  subst hq
  intro p l e R s m args below meth c D cy ad H locs lsA C hl hs hP hS
  have hk := kk p l e R s m args below meth c D cy ad H locs lsA C hl (List.forall_mem_cons.mpr ⟨trivial, (List.forall_mem_cons.mp hs).2⟩) hP hS
  obtain ⟨c1, c2, c3, c4, c5, c6, c7, c8, c9, c10⟩ := C
  have hw : ∀ w ∈ ax_GW, w.before args s = true := fun w h => c7 w (List.mem_cons_of_mem _ h)
  exact va_mabs c1 c2 (c4.trans hl.1.1.symm) c6 (hw _ hL) (hw _ gm_abs.1) (hw _ gm_abs.2.1) (hw _ gm_abs.2.2) (by omega) (by rw [ax_sum]; omega) (Nat.zero_le _) (Nat.zero_le _) hd hk
theorem aw_mmin {d : Nat} {M : ax_M} {pc q : Nat} {ls : List (Option AV)} {st : List AV} {σ : SS} {K : ax_K} {idx : Nat} {x y : Int32} (hd : decode M.2.1 pc = .ok (.invokestatic idx, 3)) (hq : pc + 3 = q) (hL : Cond.methodLink M.1.cls idx Lib.Math.min.name ∈ ax_GW) (h8 : st.length ≤ 8) (kk : AW (d + 1) M q ls (.inl (if y < x then y else x) :: st) σ K) : AW (d + 1) M pc ls (.inl y :: .inl x :: st) σ K := by
  subst hq
  intro p l e R s m args below meth c D cy ad H locs lsA C hl hs hP hS
  have hk := kk p l e R s m args below meth c D cy ad H locs lsA C hl (List.forall_mem_cons.mpr ⟨trivial, (List.forall_mem_cons.mp (List.forall_mem_cons.mp hs).2).2⟩) hP hS
  obtain ⟨c1, c2, c3, c4, c5, c6, c7, c8, c9, c10⟩ := C
  have hw : ∀ w ∈ ax_GW, w.before args s = true := fun w h => c7 w (List.mem_cons_of_mem _ h)
  exact va_mmin c1 c2 (c4.trans hl.1.1.symm) c6 (hw _ hL) (hw _ gm_min.1) (hw _ gm_min.2.1) (hw _ gm_min.2.2) (by omega) (by rw [ax_sum]; omega) (Nat.zero_le _) (Nat.zero_le _) hd hk
theorem gX3_tank : ax_GV mX3_tank 3 := ⟨⟨ax_gw 271 (by decide +kernel) rfl, ax_gw 60 (by decide +kernel) rfl, by decide +kernel, ⟨by decide +kernel, by decide +kernel, by decide +kernel⟩, by decide⟩, ax_gw 269 (by decide +kernel) rfl, ax_gw 270 (by decide +kernel) rfl, by decide⟩
theorem gX3_within : ax_GS mX3_within 3 := ⟨⟨ax_gw 274 (by decide +kernel) rfl, ax_gw 60 (by decide +kernel) rfl, by decide +kernel, ⟨by decide +kernel, by decide +kernel, by decide +kernel⟩, by decide⟩, ax_gw 273 (by decide +kernel) rfl, by decide⟩
theorem gX3_neighbours : ax_GV mX3_neighbours 3 := ⟨⟨ax_gw 278 (by decide +kernel) rfl, ax_gw 60 (by decide +kernel) rfl, by decide +kernel, ⟨by decide +kernel, by decide +kernel, by decide +kernel⟩, by decide⟩, ax_gw 276 (by decide +kernel) rfl, ax_gw 277 (by decide +kernel) rfl, by decide⟩
theorem gX3_areTwoTanks : ax_GV mX3_areTwoTanks 2 := ⟨⟨ax_gw 282 (by decide +kernel) rfl, ax_gw 60 (by decide +kernel) rfl, by decide +kernel, ⟨by decide +kernel, by decide +kernel, by decide +kernel⟩, by decide⟩, ax_gw 281 (by decide +kernel) rfl, ax_gw 0 (by decide +kernel) rfl, by decide⟩
theorem gX3_isTank : ax_GV mX3_isTank 1 := ⟨⟨ax_gw 286 (by decide +kernel) rfl, ax_gw 60 (by decide +kernel) rfl, by decide +kernel, ⟨by decide +kernel, by decide +kernel, by decide +kernel⟩, by decide⟩, ax_gw 285 (by decide +kernel) rfl, ax_gw 1 (by decide +kernel) rfl, by decide⟩
theorem gX3_has : ax_GS mX3_has 2 := ⟨⟨ax_gw 289 (by decide +kernel) rfl, ax_gw 60 (by decide +kernel) rfl, by decide +kernel, ⟨by decide +kernel, by decide +kernel, by decide +kernel⟩, by decide⟩, ax_gw 288 (by decide +kernel) rfl, by decide⟩
theorem gX3_latest : ax_GV mX3_latest 3 := ⟨⟨ax_gw 293 (by decide +kernel) rfl, ax_gw 60 (by decide +kernel) rfl, by decide +kernel, ⟨by decide +kernel, by decide +kernel, by decide +kernel⟩, by decide⟩, ax_gw 291 (by decide +kernel) rfl, ax_gw 292 (by decide +kernel) rfl, by decide⟩
theorem gX3_isLiquid : ax_GS mX3_isLiquid 1 := ⟨⟨ax_gw 296 (by decide +kernel) rfl, ax_gw 60 (by decide +kernel) rfl, by decide +kernel, ⟨by decide +kernel, by decide +kernel, by decide +kernel⟩, by decide⟩, ax_gw 295 (by decide +kernel) rfl, by decide⟩
theorem gX3_cargo : ax_GV mX3_cargo 6 := ⟨⟨ax_gw 300 (by decide +kernel) rfl, ax_gw 60 (by decide +kernel) rfl, by decide +kernel, ⟨by decide +kernel, by decide +kernel, by decide +kernel⟩, by decide⟩, ax_gw 298 (by decide +kernel) rfl, ax_gw 299 (by decide +kernel) rfl, by decide⟩
theorem gX3_isAmount : ax_GS mX3_isAmount 1 := ⟨⟨ax_gw 303 (by decide +kernel) rfl, ax_gw 60 (by decide +kernel) rfl, by decide +kernel, ⟨by decide +kernel, by decide +kernel, by decide +kernel⟩, by decide⟩, ax_gw 302 (by decide +kernel) rfl, by decide⟩
theorem gX3_isLiquidSet : ax_GS mX3_isLiquidSet 1 := ⟨⟨ax_gw 306 (by decide +kernel) rfl, ax_gw 60 (by decide +kernel) rfl, by decide +kernel, ⟨by decide +kernel, by decide +kernel, by decide +kernel⟩, by decide⟩, ax_gw 305 (by decide +kernel) rfl, by decide⟩
theorem gX3_uncargo : ax_GV mX3_uncargo 0 := ⟨⟨ax_gw 310 (by decide +kernel) rfl, ax_gw 60 (by decide +kernel) rfl, by decide +kernel, ⟨by decide +kernel, by decide +kernel, by decide +kernel⟩, by decide⟩, ax_gw 308 (by decide +kernel) rfl, ax_gw 309 (by decide +kernel) rfl, by decide⟩
theorem gX3_tanksThatHold : ax_GV mX3_tanksThatHold 1 := ⟨⟨ax_gw 314 (by decide +kernel) rfl, ax_gw 60 (by decide +kernel) rfl, by decide +kernel, ⟨by decide +kernel, by decide +kernel, by decide +kernel⟩, by decide⟩, ax_gw 313 (by decide +kernel) rfl, ax_gw 2 (by decide +kernel) rfl, by decide⟩
theorem gX3_amount : ax_GV mX3_amount 2 := ⟨⟨ax_gw 318 (by decide +kernel) rfl, ax_gw 60 (by decide +kernel) rfl, by decide +kernel, ⟨by decide +kernel, by decide +kernel, by decide +kernel⟩, by decide⟩, ax_gw 316 (by decide +kernel) rfl, ax_gw 317 (by decide +kernel) rfl, by decide⟩
theorem gX3_isCargo : ax_GV mX3_isCargo 1 := ⟨⟨ax_gw 322 (by decide +kernel) rfl, ax_gw 60 (by decide +kernel) rfl, by decide +kernel, ⟨by decide +kernel, by decide +kernel, by decide +kernel⟩, by decide⟩, ax_gw 321 (by decide +kernel) rfl, ax_gw 3 (by decide +kernel) rfl, by decide⟩
theorem gX3_washes : ax_GV mX3_washes 3 := ⟨⟨ax_gw 326 (by decide +kernel) rfl, ax_gw 60 (by decide +kernel) rfl, by decide +kernel, ⟨by decide +kernel, by decide +kernel, by decide +kernel⟩, by decide⟩, ax_gw 324 (by decide +kernel) rfl, ax_gw 325 (by decide +kernel) rfl, by decide⟩
theorem gX3_bound : ax_GV mX3_bound 1 := ⟨⟨ax_gw 330 (by decide +kernel) rfl, ax_gw 60 (by decide +kernel) rfl, by decide +kernel, ⟨by decide +kernel, by decide +kernel, by decide +kernel⟩, by decide⟩, ax_gw 328 (by decide +kernel) rfl, ax_gw 329 (by decide +kernel) rfl, by decide⟩
theorem gX3_ofTank : ax_GV mX3_ofTank 2 := ⟨⟨ax_gw 334 (by decide +kernel) rfl, ax_gw 60 (by decide +kernel) rfl, by decide +kernel, ⟨by decide +kernel, by decide +kernel, by decide +kernel⟩, by decide⟩, ax_gw 332 (by decide +kernel) rfl, ax_gw 333 (by decide +kernel) rfl, by decide⟩
theorem gX3_ofCargo : ax_GV mX3_ofCargo 2 := ⟨⟨ax_gw 338 (by decide +kernel) rfl, ax_gw 60 (by decide +kernel) rfl, by decide +kernel, ⟨by decide +kernel, by decide +kernel, by decide +kernel⟩, by decide⟩, ax_gw 336 (by decide +kernel) rfl, ax_gw 337 (by decide +kernel) rfl, by decide⟩
theorem gX3_tanksThatSuit : ax_GV mX3_tanksThatSuit 1 := ⟨⟨ax_gw 342 (by decide +kernel) rfl, ax_gw 60 (by decide +kernel) rfl, by decide +kernel, ⟨by decide +kernel, by decide +kernel, by decide +kernel⟩, by decide⟩, ax_gw 341 (by decide +kernel) rfl, ax_gw 4 (by decide +kernel) rfl, by decide⟩
theorem gX3_faults : ax_GV mX3_faults 2 := ⟨⟨ax_gw 346 (by decide +kernel) rfl, ax_gw 60 (by decide +kernel) rfl, by decide +kernel, ⟨by decide +kernel, by decide +kernel, by decide +kernel⟩, by decide⟩, ax_gw 345 (by decide +kernel) rfl, ax_gw 5 (by decide +kernel) rfl, by decide⟩
theorem gX3_cargoesThatClash : ax_GV mX3_cargoesThatClash 1 := ⟨⟨ax_gw 350 (by decide +kernel) rfl, ax_gw 60 (by decide +kernel) rfl, by decide +kernel, ⟨by decide +kernel, by decide +kernel, by decide +kernel⟩, by decide⟩, ax_gw 349 (by decide +kernel) rfl, ax_gw 6 (by decide +kernel) rfl, by decide⟩
theorem gX3_clash : ax_GS mX3_clash 2 := ⟨⟨ax_gw 353 (by decide +kernel) rfl, ax_gw 60 (by decide +kernel) rfl, by decide +kernel, ⟨by decide +kernel, by decide +kernel, by decide +kernel⟩, by decide⟩, ax_gw 352 (by decide +kernel) rfl, by decide⟩
theorem gX3_needs : ax_GV mX3_needs 2 := ⟨⟨ax_gw 357 (by decide +kernel) rfl, ax_gw 60 (by decide +kernel) rfl, by decide +kernel, ⟨by decide +kernel, by decide +kernel, by decide +kernel⟩, by decide⟩, ax_gw 355 (by decide +kernel) rfl, ax_gw 356 (by decide +kernel) rfl, by decide⟩
theorem gX3_washesNeeded : ax_GV mX3_washesNeeded 2 := ⟨⟨ax_gw 361 (by decide +kernel) rfl, ax_gw 60 (by decide +kernel) rfl, by decide +kernel, ⟨by decide +kernel, by decide +kernel, by decide +kernel⟩, by decide⟩, ax_gw 360 (by decide +kernel) rfl, ax_gw 7 (by decide +kernel) rfl, by decide⟩
theorem gX3_why : ax_GV mX3_why 2 := ⟨⟨ax_gw 365 (by decide +kernel) rfl, ax_gw 60 (by decide +kernel) rfl, by decide +kernel, ⟨by decide +kernel, by decide +kernel, by decide +kernel⟩, by decide⟩, ax_gw 363 (by decide +kernel) rfl, ax_gw 364 (by decide +kernel) rfl, by decide⟩
theorem gX3_plan : ax_GV mX3_plan 2 := ⟨⟨ax_gw 369 (by decide +kernel) rfl, ax_gw 60 (by decide +kernel) rfl, by decide +kernel, ⟨by decide +kernel, by decide +kernel, by decide +kernel⟩, by decide⟩, ax_gw 367 (by decide +kernel) rfl, ax_gw 368 (by decide +kernel) rfl, by decide⟩
theorem gX3_broken : ax_GV mX3_broken 1 := ⟨⟨ax_gw 373 (by decide +kernel) rfl, ax_gw 60 (by decide +kernel) rfl, by decide +kernel, ⟨by decide +kernel, by decide +kernel, by decide +kernel⟩, by decide⟩, ax_gw 371 (by decide +kernel) rfl, ax_gw 372 (by decide +kernel) rfl, by decide⟩
theorem gX3_isCargoSet : ax_GV mX3_isCargoSet 1 := ⟨⟨ax_gw 377 (by decide +kernel) rfl, ax_gw 60 (by decide +kernel) rfl, by decide +kernel, ⟨by decide +kernel, by decide +kernel, by decide +kernel⟩, by decide⟩, ax_gw 376 (by decide +kernel) rfl, ax_gw 8 (by decide +kernel) rfl, by decide⟩
theorem gX3_toldGoesBeyond : ax_GV mX3_toldGoesBeyond 1 := ⟨⟨ax_gw 381 (by decide +kernel) rfl, ax_gw 60 (by decide +kernel) rfl, by decide +kernel, ⟨by decide +kernel, by decide +kernel, by decide +kernel⟩, by decide⟩, ax_gw 380 (by decide +kernel) rfl, ax_gw 9 (by decide +kernel) rfl, by decide⟩
theorem gX3_toldDoesNotSuit : ax_GV mX3_toldDoesNotSuit 0 := ⟨⟨ax_gw 385 (by decide +kernel) rfl, ax_gw 60 (by decide +kernel) rfl, by decide +kernel, ⟨by decide +kernel, by decide +kernel, by decide +kernel⟩, by decide⟩, ax_gw 384 (by decide +kernel) rfl, ax_gw 10 (by decide +kernel) rfl, by decide⟩
theorem gX3_toldClashes : ax_GV mX3_toldClashes 0 := ⟨⟨ax_gw 389 (by decide +kernel) rfl, ax_gw 60 (by decide +kernel) rfl, by decide +kernel, ⟨by decide +kernel, by decide +kernel, by decide +kernel⟩, by decide⟩, ax_gw 388 (by decide +kernel) rfl, ax_gw 11 (by decide +kernel) rfl, by decide⟩
theorem gX3_stowTold : ax_GV mX3_stowTold 0 := ⟨⟨ax_gw 393 (by decide +kernel) rfl, ax_gw 60 (by decide +kernel) rfl, by decide +kernel, ⟨by decide +kernel, by decide +kernel, by decide +kernel⟩, by decide⟩, ax_gw 392 (by decide +kernel) rfl, ax_gw 12 (by decide +kernel) rfl, by decide⟩
theorem gX3_toldLeavesSomeOf : ax_GV mX3_toldLeavesSomeOf 1 := ⟨⟨ax_gw 400 (by decide +kernel) rfl, ax_gw 60 (by decide +kernel) rfl, by decide +kernel, ⟨by decide +kernel, by decide +kernel, by decide +kernel⟩, by decide⟩, ax_gw 399 (by decide +kernel) rfl, ax_gw 13 (by decide +kernel) rfl, by decide⟩
theorem gX3_toldLeavesTankEmpty : ax_GV mX3_toldLeavesTankEmpty 0 := ⟨⟨ax_gw 404 (by decide +kernel) rfl, ax_gw 60 (by decide +kernel) rfl, by decide +kernel, ⟨by decide +kernel, by decide +kernel, by decide +kernel⟩, by decide⟩, ax_gw 403 (by decide +kernel) rfl, ax_gw 14 (by decide +kernel) rfl, by decide⟩
theorem gX3_toldList : ax_GV mX3_toldList 0 := ⟨⟨ax_gw 408 (by decide +kernel) rfl, ax_gw 60 (by decide +kernel) rfl, by decide +kernel, ⟨by decide +kernel, by decide +kernel, by decide +kernel⟩, by decide⟩, ax_gw 407 (by decide +kernel) rfl, ax_gw 15 (by decide +kernel) rfl, by decide⟩
theorem gX3_ofPlan : ax_GV mX3_ofPlan 1 := ⟨⟨ax_gw 415 (by decide +kernel) rfl, ax_gw 60 (by decide +kernel) rfl, by decide +kernel, ⟨by decide +kernel, by decide +kernel, by decide +kernel⟩, by decide⟩, ax_gw 413 (by decide +kernel) rfl, ax_gw 414 (by decide +kernel) rfl, by decide⟩
theorem gX3_toldCost : ax_GV mX3_toldCost 0 := ⟨⟨ax_gw 419 (by decide +kernel) rfl, ax_gw 60 (by decide +kernel) rfl, by decide +kernel, ⟨by decide +kernel, by decide +kernel, by decide +kernel⟩, by decide⟩, ax_gw 418 (by decide +kernel) rfl, ax_gw 16 (by decide +kernel) rfl, by decide⟩
theorem gX3_toldTanks : ax_GV mX3_toldTanks 0 := ⟨⟨ax_gw 423 (by decide +kernel) rfl, ax_gw 60 (by decide +kernel) rfl, by decide +kernel, ⟨by decide +kernel, by decide +kernel, by decide +kernel⟩, by decide⟩, ax_gw 422 (by decide +kernel) rfl, ax_gw 17 (by decide +kernel) rfl, by decide⟩
theorem gX3_best : ax_GV mX3_best 2 := ⟨⟨ax_gw 428 (by decide +kernel) rfl, ax_gw 60 (by decide +kernel) rfl, by decide +kernel, ⟨by decide +kernel, by decide +kernel, by decide +kernel⟩, by decide⟩, ax_gw 426 (by decide +kernel) rfl, ax_gw 427 (by decide +kernel) rfl, by decide⟩
theorem gX3_searchIfStale : ax_GV mX3_searchIfStale 0 := ⟨⟨ax_gw 432 (by decide +kernel) rfl, ax_gw 60 (by decide +kernel) rfl, by decide +kernel, ⟨by decide +kernel, by decide +kernel, by decide +kernel⟩, by decide⟩, ax_gw 431 (by decide +kernel) rfl, ax_gw 18 (by decide +kernel) rfl, by decide⟩
theorem gX3_noteCargoes : ax_GV mX3_noteCargoes 0 := ⟨⟨ax_gw 436 (by decide +kernel) rfl, ax_gw 60 (by decide +kernel) rfl, by decide +kernel, ⟨by decide +kernel, by decide +kernel, by decide +kernel⟩, by decide⟩, ax_gw 435 (by decide +kernel) rfl, ax_gw 19 (by decide +kernel) rfl, by decide⟩
theorem gX3_noteTanks : ax_GV mX3_noteTanks 0 := ⟨⟨ax_gw 440 (by decide +kernel) rfl, ax_gw 60 (by decide +kernel) rfl, by decide +kernel, ⟨by decide +kernel, by decide +kernel, by decide +kernel⟩, by decide⟩, ax_gw 439 (by decide +kernel) rfl, ax_gw 20 (by decide +kernel) rfl, by decide⟩
theorem gX3_tryTank : ax_GS mX3_tryTank 4 := ⟨⟨ax_gw 443 (by decide +kernel) rfl, ax_gw 60 (by decide +kernel) rfl, by decide +kernel, ⟨by decide +kernel, by decide +kernel, by decide +kernel⟩, by decide⟩, ax_gw 442 (by decide +kernel) rfl, by decide⟩
theorem gX1_keepIfBetter : ax_GV mX1_keepIfBetter 1 := ⟨⟨ax_gw 447 (by decide +kernel) rfl, ax_gw 61 (by decide +kernel) rfl, by decide +kernel, ⟨by decide +kernel, by decide +kernel, by decide +kernel⟩, by decide⟩, ax_gw 446 (by decide +kernel) rfl, ax_gw 21 (by decide +kernel) rfl, by decide⟩
theorem gX1_openTo : ax_GV mX1_openTo 1 := ⟨⟨ax_gw 452 (by decide +kernel) rfl, ax_gw 61 (by decide +kernel) rfl, by decide +kernel, ⟨by decide +kernel, by decide +kernel, by decide +kernel⟩, by decide⟩, ax_gw 451 (by decide +kernel) rfl, ax_gw 22 (by decide +kernel) rfl, by decide⟩
theorem gX3_taken : ax_GV mX3_taken 0 := ⟨⟨ax_gw 457 (by decide +kernel) rfl, ax_gw 60 (by decide +kernel) rfl, by decide +kernel, ⟨by decide +kernel, by decide +kernel, by decide +kernel⟩, by decide⟩, ax_gw 455 (by decide +kernel) rfl, ax_gw 456 (by decide +kernel) rfl, by decide⟩
theorem gX3_takenSet : ax_GV mX3_takenSet 0 := ⟨⟨ax_gw 461 (by decide +kernel) rfl, ax_gw 60 (by decide +kernel) rfl, by decide +kernel, ⟨by decide +kernel, by decide +kernel, by decide +kernel⟩, by decide⟩, ax_gw 460 (by decide +kernel) rfl, ax_gw 23 (by decide +kernel) rfl, by decide⟩
theorem gX3_amountsOf : ax_GV mX3_amountsOf 1 := ⟨⟨ax_gw 465 (by decide +kernel) rfl, ax_gw 60 (by decide +kernel) rfl, by decide +kernel, ⟨by decide +kernel, by decide +kernel, by decide +kernel⟩, by decide⟩, ax_gw 464 (by decide +kernel) rfl, ax_gw 24 (by decide +kernel) rfl, by decide⟩
theorem gJ6_bitCount_0f7a4 : ax_GS mJ6_bitCount_0f7a4 1 := ⟨⟨ax_gw 468 (by decide +kernel) rfl, ax_gw 66 (by decide +kernel) rfl, by decide +kernel, ⟨by decide +kernel, by decide +kernel, by decide +kernel⟩, by decide⟩, ax_gw 467 (by decide +kernel) rfl, by decide⟩
theorem gX3_load : ax_GV mX3_load 0 := ⟨⟨ax_gw 475 (by decide +kernel) rfl, ax_gw 60 (by decide +kernel) rfl, by decide +kernel, ⟨by decide +kernel, by decide +kernel, by decide +kernel⟩, by decide⟩, ax_gw 473 (by decide +kernel) rfl, ax_gw 474 (by decide +kernel) rfl, by decide⟩
theorem gX3_tanksInUse : ax_GV mX3_tanksInUse 0 := ⟨⟨ax_gw 479 (by decide +kernel) rfl, ax_gw 60 (by decide +kernel) rfl, by decide +kernel, ⟨by decide +kernel, by decide +kernel, by decide +kernel⟩, by decide⟩, ax_gw 478 (by decide +kernel) rfl, ax_gw 25 (by decide +kernel) rfl, by decide⟩
theorem gX3_unload : ax_GV mX3_unload 1 := ⟨⟨ax_gw 483 (by decide +kernel) rfl, ax_gw 60 (by decide +kernel) rfl, by decide +kernel, ⟨by decide +kernel, by decide +kernel, by decide +kernel⟩, by decide⟩, ax_gw 481 (by decide +kernel) rfl, ax_gw 482 (by decide +kernel) rfl, by decide⟩
theorem gX2_leaveEmpty : ax_GV mX2_leaveEmpty 1 := ⟨⟨ax_gw 487 (by decide +kernel) rfl, ax_gw 62 (by decide +kernel) rfl, by decide +kernel, ⟨by decide +kernel, by decide +kernel, by decide +kernel⟩, by decide⟩, ax_gw 486 (by decide +kernel) rfl, ax_gw 26 (by decide +kernel) rfl, by decide⟩
theorem gX3_pour : ax_GV mX3_pour 3 := ⟨⟨ax_gw 491 (by decide +kernel) rfl, ax_gw 60 (by decide +kernel) rfl, by decide +kernel, ⟨by decide +kernel, by decide +kernel, by decide +kernel⟩, by decide⟩, ax_gw 489 (by decide +kernel) rfl, ax_gw 490 (by decide +kernel) rfl, by decide⟩
theorem gX3_mayComeInto : ax_GV mX3_mayComeInto 2 := ⟨⟨ax_gw 495 (by decide +kernel) rfl, ax_gw 60 (by decide +kernel) rfl, by decide +kernel, ⟨by decide +kernel, by decide +kernel, by decide +kernel⟩, by decide⟩, ax_gw 494 (by decide +kernel) rfl, ax_gw 27 (by decide +kernel) rfl, by decide⟩
theorem gX3_many : ax_GV mX3_many 1 := ⟨⟨ax_gw 499 (by decide +kernel) rfl, ax_gw 60 (by decide +kernel) rfl, by decide +kernel, ⟨by decide +kernel, by decide +kernel, by decide +kernel⟩, by decide⟩, ax_gw 497 (by decide +kernel) rfl, ax_gw 498 (by decide +kernel) rfl, by decide⟩
theorem gX3_heldList : ax_GV mX3_heldList 0 := ⟨⟨ax_gw 503 (by decide +kernel) rfl, ax_gw 60 (by decide +kernel) rfl, by decide +kernel, ⟨by decide +kernel, by decide +kernel, by decide +kernel⟩, by decide⟩, ax_gw 502 (by decide +kernel) rfl, ax_gw 28 (by decide +kernel) rfl, by decide⟩
theorem gX4_tank : ax_GV mX4_tank 3 := ⟨⟨ax_gw 592 (by decide +kernel) rfl, ax_gw 64 (by decide +kernel) rfl, by decide +kernel, ⟨by decide +kernel, by decide +kernel, by decide +kernel⟩, by decide⟩, ax_gw 590 (by decide +kernel) rfl, ax_gw 591 (by decide +kernel) rfl, by decide⟩
theorem gX4_within : ax_GS mX4_within 3 := ⟨⟨ax_gw 595 (by decide +kernel) rfl, ax_gw 64 (by decide +kernel) rfl, by decide +kernel, ⟨by decide +kernel, by decide +kernel, by decide +kernel⟩, by decide⟩, ax_gw 594 (by decide +kernel) rfl, by decide⟩
theorem gX4_neighbours : ax_GV mX4_neighbours 3 := ⟨⟨ax_gw 599 (by decide +kernel) rfl, ax_gw 64 (by decide +kernel) rfl, by decide +kernel, ⟨by decide +kernel, by decide +kernel, by decide +kernel⟩, by decide⟩, ax_gw 597 (by decide +kernel) rfl, ax_gw 598 (by decide +kernel) rfl, by decide⟩
theorem gX4_areTwo : ax_GV mX4_areTwo 2 := ⟨⟨ax_gw 603 (by decide +kernel) rfl, ax_gw 64 (by decide +kernel) rfl, by decide +kernel, ⟨by decide +kernel, by decide +kernel, by decide +kernel⟩, by decide⟩, ax_gw 602 (by decide +kernel) rfl, ax_gw 29 (by decide +kernel) rfl, by decide⟩
theorem gX4_isTank : ax_GV mX4_isTank 1 := ⟨⟨ax_gw 607 (by decide +kernel) rfl, ax_gw 64 (by decide +kernel) rfl, by decide +kernel, ⟨by decide +kernel, by decide +kernel, by decide +kernel⟩, by decide⟩, ax_gw 606 (by decide +kernel) rfl, ax_gw 30 (by decide +kernel) rfl, by decide⟩
theorem gX4_has : ax_GS mX4_has 2 := ⟨⟨ax_gw 610 (by decide +kernel) rfl, ax_gw 64 (by decide +kernel) rfl, by decide +kernel, ⟨by decide +kernel, by decide +kernel, by decide +kernel⟩, by decide⟩, ax_gw 609 (by decide +kernel) rfl, by decide⟩
theorem gX4_latest : ax_GV mX4_latest 3 := ⟨⟨ax_gw 614 (by decide +kernel) rfl, ax_gw 64 (by decide +kernel) rfl, by decide +kernel, ⟨by decide +kernel, by decide +kernel, by decide +kernel⟩, by decide⟩, ax_gw 612 (by decide +kernel) rfl, ax_gw 613 (by decide +kernel) rfl, by decide⟩
theorem gX4_isLiquid : ax_GS mX4_isLiquid 1 := ⟨⟨ax_gw 617 (by decide +kernel) rfl, ax_gw 64 (by decide +kernel) rfl, by decide +kernel, ⟨by decide +kernel, by decide +kernel, by decide +kernel⟩, by decide⟩, ax_gw 616 (by decide +kernel) rfl, by decide⟩
theorem gX4_cargo : ax_GV mX4_cargo 6 := ⟨⟨ax_gw 621 (by decide +kernel) rfl, ax_gw 64 (by decide +kernel) rfl, by decide +kernel, ⟨by decide +kernel, by decide +kernel, by decide +kernel⟩, by decide⟩, ax_gw 619 (by decide +kernel) rfl, ax_gw 620 (by decide +kernel) rfl, by decide⟩
theorem gX4_isSet : ax_GS mX4_isSet 1 := ⟨⟨ax_gw 624 (by decide +kernel) rfl, ax_gw 64 (by decide +kernel) rfl, by decide +kernel, ⟨by decide +kernel, by decide +kernel, by decide +kernel⟩, by decide⟩, ax_gw 623 (by decide +kernel) rfl, by decide⟩
theorem gX4_uncargo : ax_GV mX4_uncargo 0 := ⟨⟨ax_gw 628 (by decide +kernel) rfl, ax_gw 64 (by decide +kernel) rfl, by decide +kernel, ⟨by decide +kernel, by decide +kernel, by decide +kernel⟩, by decide⟩, ax_gw 626 (by decide +kernel) rfl, ax_gw 627 (by decide +kernel) rfl, by decide⟩
theorem gX4_holders : ax_GV mX4_holders 1 := ⟨⟨ax_gw 632 (by decide +kernel) rfl, ax_gw 64 (by decide +kernel) rfl, by decide +kernel, ⟨by decide +kernel, by decide +kernel, by decide +kernel⟩, by decide⟩, ax_gw 631 (by decide +kernel) rfl, ax_gw 31 (by decide +kernel) rfl, by decide⟩
theorem gX4_amount : ax_GV mX4_amount 2 := ⟨⟨ax_gw 636 (by decide +kernel) rfl, ax_gw 64 (by decide +kernel) rfl, by decide +kernel, ⟨by decide +kernel, by decide +kernel, by decide +kernel⟩, by decide⟩, ax_gw 634 (by decide +kernel) rfl, ax_gw 635 (by decide +kernel) rfl, by decide⟩
theorem gX4_isCargo : ax_GV mX4_isCargo 1 := ⟨⟨ax_gw 640 (by decide +kernel) rfl, ax_gw 64 (by decide +kernel) rfl, by decide +kernel, ⟨by decide +kernel, by decide +kernel, by decide +kernel⟩, by decide⟩, ax_gw 639 (by decide +kernel) rfl, ax_gw 32 (by decide +kernel) rfl, by decide⟩
theorem gX4_washes : ax_GV mX4_washes 3 := ⟨⟨ax_gw 644 (by decide +kernel) rfl, ax_gw 64 (by decide +kernel) rfl, by decide +kernel, ⟨by decide +kernel, by decide +kernel, by decide +kernel⟩, by decide⟩, ax_gw 642 (by decide +kernel) rfl, ax_gw 643 (by decide +kernel) rfl, by decide⟩
theorem gX4_bound : ax_GV mX4_bound 1 := ⟨⟨ax_gw 648 (by decide +kernel) rfl, ax_gw 64 (by decide +kernel) rfl, by decide +kernel, ⟨by decide +kernel, by decide +kernel, by decide +kernel⟩, by decide⟩, ax_gw 646 (by decide +kernel) rfl, ax_gw 647 (by decide +kernel) rfl, by decide⟩
theorem gX4_ofTank : ax_GV mX4_ofTank 2 := ⟨⟨ax_gw 652 (by decide +kernel) rfl, ax_gw 64 (by decide +kernel) rfl, by decide +kernel, ⟨by decide +kernel, by decide +kernel, by decide +kernel⟩, by decide⟩, ax_gw 650 (by decide +kernel) rfl, ax_gw 651 (by decide +kernel) rfl, by decide⟩
theorem gX4_ofCargo : ax_GV mX4_ofCargo 2 := ⟨⟨ax_gw 656 (by decide +kernel) rfl, ax_gw 64 (by decide +kernel) rfl, by decide +kernel, ⟨by decide +kernel, by decide +kernel, by decide +kernel⟩, by decide⟩, ax_gw 654 (by decide +kernel) rfl, ax_gw 655 (by decide +kernel) rfl, by decide⟩
theorem gX4_suited : ax_GV mX4_suited 1 := ⟨⟨ax_gw 660 (by decide +kernel) rfl, ax_gw 64 (by decide +kernel) rfl, by decide +kernel, ⟨by decide +kernel, by decide +kernel, by decide +kernel⟩, by decide⟩, ax_gw 659 (by decide +kernel) rfl, ax_gw 33 (by decide +kernel) rfl, by decide⟩
theorem gX4_whyNot : ax_GV mX4_whyNot 2 := ⟨⟨ax_gw 664 (by decide +kernel) rfl, ax_gw 64 (by decide +kernel) rfl, by decide +kernel, ⟨by decide +kernel, by decide +kernel, by decide +kernel⟩, by decide⟩, ax_gw 663 (by decide +kernel) rfl, ax_gw 34 (by decide +kernel) rfl, by decide⟩
theorem gX4_clashes : ax_GV mX4_clashes 1 := ⟨⟨ax_gw 668 (by decide +kernel) rfl, ax_gw 64 (by decide +kernel) rfl, by decide +kernel, ⟨by decide +kernel, by decide +kernel, by decide +kernel⟩, by decide⟩, ax_gw 667 (by decide +kernel) rfl, ax_gw 35 (by decide +kernel) rfl, by decide⟩
theorem gX4_doClash : ax_GV mX4_doClash 2 := ⟨⟨ax_gw 672 (by decide +kernel) rfl, ax_gw 64 (by decide +kernel) rfl, by decide +kernel, ⟨by decide +kernel, by decide +kernel, by decide +kernel⟩, by decide⟩, ax_gw 671 (by decide +kernel) rfl, ax_gw 36 (by decide +kernel) rfl, by decide⟩
theorem gX4_needs : ax_GV mX4_needs 2 := ⟨⟨ax_gw 676 (by decide +kernel) rfl, ax_gw 64 (by decide +kernel) rfl, by decide +kernel, ⟨by decide +kernel, by decide +kernel, by decide +kernel⟩, by decide⟩, ax_gw 674 (by decide +kernel) rfl, ax_gw 675 (by decide +kernel) rfl, by decide⟩
theorem gX4_washesFor : ax_GV mX4_washesFor 2 := ⟨⟨ax_gw 680 (by decide +kernel) rfl, ax_gw 64 (by decide +kernel) rfl, by decide +kernel, ⟨by decide +kernel, by decide +kernel, by decide +kernel⟩, by decide⟩, ax_gw 679 (by decide +kernel) rfl, ax_gw 37 (by decide +kernel) rfl, by decide⟩
theorem gX4_why : ax_GV mX4_why 2 := ⟨⟨ax_gw 684 (by decide +kernel) rfl, ax_gw 64 (by decide +kernel) rfl, by decide +kernel, ⟨by decide +kernel, by decide +kernel, by decide +kernel⟩, by decide⟩, ax_gw 682 (by decide +kernel) rfl, ax_gw 683 (by decide +kernel) rfl, by decide⟩
theorem gX4_plan : ax_GV mX4_plan 2 := ⟨⟨ax_gw 688 (by decide +kernel) rfl, ax_gw 64 (by decide +kernel) rfl, by decide +kernel, ⟨by decide +kernel, by decide +kernel, by decide +kernel⟩, by decide⟩, ax_gw 686 (by decide +kernel) rfl, ax_gw 687 (by decide +kernel) rfl, by decide⟩
theorem gX4_broken : ax_GV mX4_broken 1 := ⟨⟨ax_gw 692 (by decide +kernel) rfl, ax_gw 64 (by decide +kernel) rfl, by decide +kernel, ⟨by decide +kernel, by decide +kernel, by decide +kernel⟩, by decide⟩, ax_gw 690 (by decide +kernel) rfl, ax_gw 691 (by decide +kernel) rfl, by decide⟩
theorem gX4_isSetOfCargoes : ax_GV mX4_isSetOfCargoes 1 := ⟨⟨ax_gw 696 (by decide +kernel) rfl, ax_gw 64 (by decide +kernel) rfl, by decide +kernel, ⟨by decide +kernel, by decide +kernel, by decide +kernel⟩, by decide⟩, ax_gw 695 (by decide +kernel) rfl, ax_gw 38 (by decide +kernel) rfl, by decide⟩
theorem gX4_triesPlan : ax_GV mX4_triesPlan 0 := ⟨⟨ax_gw 700 (by decide +kernel) rfl, ax_gw 64 (by decide +kernel) rfl, by decide +kernel, ⟨by decide +kernel, by decide +kernel, by decide +kernel⟩, by decide⟩, ax_gw 699 (by decide +kernel) rfl, ax_gw 39 (by decide +kernel) rfl, by decide⟩
theorem gX4_brokenBy : ax_GV mX4_brokenBy 1 := ⟨⟨ax_gw 704 (by decide +kernel) rfl, ax_gw 64 (by decide +kernel) rfl, by decide +kernel, ⟨by decide +kernel, by decide +kernel, by decide +kernel⟩, by decide⟩, ax_gw 703 (by decide +kernel) rfl, ax_gw 40 (by decide +kernel) rfl, by decide⟩
theorem gX4_hasOther : ax_GV mX4_hasOther 1 := ⟨⟨ax_gw 708 (by decide +kernel) rfl, ax_gw 64 (by decide +kernel) rfl, by decide +kernel, ⟨by decide +kernel, by decide +kernel, by decide +kernel⟩, by decide⟩, ax_gw 707 (by decide +kernel) rfl, ax_gw 41 (by decide +kernel) rfl, by decide⟩
theorem gX4_hasUnfit : ax_GV mX4_hasUnfit 0 := ⟨⟨ax_gw 712 (by decide +kernel) rfl, ax_gw 64 (by decide +kernel) rfl, by decide +kernel, ⟨by decide +kernel, by decide +kernel, by decide +kernel⟩, by decide⟩, ax_gw 711 (by decide +kernel) rfl, ax_gw 42 (by decide +kernel) rfl, by decide⟩
theorem gX4_hasClash : ax_GV mX4_hasClash 0 := ⟨⟨ax_gw 716 (by decide +kernel) rfl, ax_gw 64 (by decide +kernel) rfl, by decide +kernel, ⟨by decide +kernel, by decide +kernel, by decide +kernel⟩, by decide⟩, ax_gw 715 (by decide +kernel) rfl, ax_gw 43 (by decide +kernel) rfl, by decide⟩
theorem gX4_hasTooMuch : ax_GV mX4_hasTooMuch 1 := ⟨⟨ax_gw 720 (by decide +kernel) rfl, ax_gw 64 (by decide +kernel) rfl, by decide +kernel, ⟨by decide +kernel, by decide +kernel, by decide +kernel⟩, by decide⟩, ax_gw 719 (by decide +kernel) rfl, ax_gw 44 (by decide +kernel) rfl, by decide⟩
theorem gX4_fills : ax_GV mX4_fills 0 := ⟨⟨ax_gw 724 (by decide +kernel) rfl, ax_gw 64 (by decide +kernel) rfl, by decide +kernel, ⟨by decide +kernel, by decide +kernel, by decide +kernel⟩, by decide⟩, ax_gw 723 (by decide +kernel) rfl, ax_gw 45 (by decide +kernel) rfl, by decide⟩
theorem gX4_hasEmpty : ax_GV mX4_hasEmpty 0 := ⟨⟨ax_gw 728 (by decide +kernel) rfl, ax_gw 64 (by decide +kernel) rfl, by decide +kernel, ⟨by decide +kernel, by decide +kernel, by decide +kernel⟩, by decide⟩, ax_gw 727 (by decide +kernel) rfl, ax_gw 46 (by decide +kernel) rfl, by decide⟩
theorem gX4_listOf : ax_GV mX4_listOf 0 := ⟨⟨ax_gw 732 (by decide +kernel) rfl, ax_gw 64 (by decide +kernel) rfl, by decide +kernel, ⟨by decide +kernel, by decide +kernel, by decide +kernel⟩, by decide⟩, ax_gw 731 (by decide +kernel) rfl, ax_gw 47 (by decide +kernel) rfl, by decide⟩
theorem gX4_ofPlan : ax_GV mX4_ofPlan 1 := ⟨⟨ax_gw 736 (by decide +kernel) rfl, ax_gw 64 (by decide +kernel) rfl, by decide +kernel, ⟨by decide +kernel, by decide +kernel, by decide +kernel⟩, by decide⟩, ax_gw 734 (by decide +kernel) rfl, ax_gw 735 (by decide +kernel) rfl, by decide⟩
theorem gX4_costOf : ax_GV mX4_costOf 0 := ⟨⟨ax_gw 740 (by decide +kernel) rfl, ax_gw 64 (by decide +kernel) rfl, by decide +kernel, ⟨by decide +kernel, by decide +kernel, by decide +kernel⟩, by decide⟩, ax_gw 739 (by decide +kernel) rfl, ax_gw 48 (by decide +kernel) rfl, by decide⟩
theorem gX4_usedOf : ax_GV mX4_usedOf 0 := ⟨⟨ax_gw 744 (by decide +kernel) rfl, ax_gw 64 (by decide +kernel) rfl, by decide +kernel, ⟨by decide +kernel, by decide +kernel, by decide +kernel⟩, by decide⟩, ax_gw 743 (by decide +kernel) rfl, ax_gw 49 (by decide +kernel) rfl, by decide⟩
theorem gX4_best : ax_GV mX4_best 2 := ⟨⟨ax_gw 749 (by decide +kernel) rfl, ax_gw 64 (by decide +kernel) rfl, by decide +kernel, ⟨by decide +kernel, by decide +kernel, by decide +kernel⟩, by decide⟩, ax_gw 747 (by decide +kernel) rfl, ax_gw 748 (by decide +kernel) rfl, by decide⟩
theorem gX4_findBest : ax_GV mX4_findBest 1 := ⟨⟨ax_gw 753 (by decide +kernel) rfl, ax_gw 64 (by decide +kernel) rfl, by decide +kernel, ⟨by decide +kernel, by decide +kernel, by decide +kernel⟩, by decide⟩, ax_gw 752 (by decide +kernel) rfl, ax_gw 50 (by decide +kernel) rfl, by decide⟩
theorem gX4_lays : ax_GV mX4_lays 2 := ⟨⟨ax_gw 757 (by decide +kernel) rfl, ax_gw 64 (by decide +kernel) rfl, by decide +kernel, ⟨by decide +kernel, by decide +kernel, by decide +kernel⟩, by decide⟩, ax_gw 756 (by decide +kernel) rfl, ax_gw 51 (by decide +kernel) rfl, by decide⟩
theorem gX4_keepsBest : ax_GV mX4_keepsBest 0 := ⟨⟨ax_gw 761 (by decide +kernel) rfl, ax_gw 64 (by decide +kernel) rfl, by decide +kernel, ⟨by decide +kernel, by decide +kernel, by decide +kernel⟩, by decide⟩, ax_gw 760 (by decide +kernel) rfl, ax_gw 52 (by decide +kernel) rfl, by decide⟩
theorem gX4_triesBest : ax_GV mX4_triesBest 0 := ⟨⟨ax_gw 765 (by decide +kernel) rfl, ax_gw 64 (by decide +kernel) rfl, by decide +kernel, ⟨by decide +kernel, by decide +kernel, by decide +kernel⟩, by decide⟩, ax_gw 764 (by decide +kernel) rfl, ax_gw 53 (by decide +kernel) rfl, by decide⟩
theorem gX4_taken : ax_GV mX4_taken 0 := ⟨⟨ax_gw 769 (by decide +kernel) rfl, ax_gw 64 (by decide +kernel) rfl, by decide +kernel, ⟨by decide +kernel, by decide +kernel, by decide +kernel⟩, by decide⟩, ax_gw 767 (by decide +kernel) rfl, ax_gw 768 (by decide +kernel) rfl, by decide⟩
theorem gX4_isBetter : ax_GV mX4_isBetter 2 := ⟨⟨ax_gw 773 (by decide +kernel) rfl, ax_gw 64 (by decide +kernel) rfl, by decide +kernel, ⟨by decide +kernel, by decide +kernel, by decide +kernel⟩, by decide⟩, ax_gw 772 (by decide +kernel) rfl, ax_gw 54 (by decide +kernel) rfl, by decide⟩
theorem gX4_amountsOf : ax_GV mX4_amountsOf 1 := ⟨⟨ax_gw 777 (by decide +kernel) rfl, ax_gw 64 (by decide +kernel) rfl, by decide +kernel, ⟨by decide +kernel, by decide +kernel, by decide +kernel⟩, by decide⟩, ax_gw 776 (by decide +kernel) rfl, ax_gw 55 (by decide +kernel) rfl, by decide⟩
theorem gX4_sizeOf : ax_GS mX4_sizeOf 1 := ⟨⟨ax_gw 780 (by decide +kernel) rfl, ax_gw 64 (by decide +kernel) rfl, by decide +kernel, ⟨by decide +kernel, by decide +kernel, by decide +kernel⟩, by decide⟩, ax_gw 779 (by decide +kernel) rfl, by decide⟩
theorem gX4_load : ax_GV mX4_load 0 := ⟨⟨ax_gw 784 (by decide +kernel) rfl, ax_gw 64 (by decide +kernel) rfl, by decide +kernel, ⟨by decide +kernel, by decide +kernel, by decide +kernel⟩, by decide⟩, ax_gw 782 (by decide +kernel) rfl, ax_gw 783 (by decide +kernel) rfl, by decide⟩
theorem gX4_unload : ax_GV mX4_unload 1 := ⟨⟨ax_gw 789 (by decide +kernel) rfl, ax_gw 64 (by decide +kernel) rfl, by decide +kernel, ⟨by decide +kernel, by decide +kernel, by decide +kernel⟩, by decide⟩, ax_gw 787 (by decide +kernel) rfl, ax_gw 788 (by decide +kernel) rfl, by decide⟩
theorem gX4_empties : ax_GV mX4_empties 1 := ⟨⟨ax_gw 793 (by decide +kernel) rfl, ax_gw 64 (by decide +kernel) rfl, by decide +kernel, ⟨by decide +kernel, by decide +kernel, by decide +kernel⟩, by decide⟩, ax_gw 792 (by decide +kernel) rfl, ax_gw 56 (by decide +kernel) rfl, by decide⟩
theorem gX4_pour : ax_GV mX4_pour 3 := ⟨⟨ax_gw 797 (by decide +kernel) rfl, ax_gw 64 (by decide +kernel) rfl, by decide +kernel, ⟨by decide +kernel, by decide +kernel, by decide +kernel⟩, by decide⟩, ax_gw 795 (by decide +kernel) rfl, ax_gw 796 (by decide +kernel) rfl, by decide⟩
theorem gX4_mayTake : ax_GV mX4_mayTake 2 := ⟨⟨ax_gw 801 (by decide +kernel) rfl, ax_gw 64 (by decide +kernel) rfl, by decide +kernel, ⟨by decide +kernel, by decide +kernel, by decide +kernel⟩, by decide⟩, ax_gw 800 (by decide +kernel) rfl, ax_gw 57 (by decide +kernel) rfl, by decide⟩
theorem gX4_many : ax_GV mX4_many 1 := ⟨⟨ax_gw 805 (by decide +kernel) rfl, ax_gw 64 (by decide +kernel) rfl, by decide +kernel, ⟨by decide +kernel, by decide +kernel, by decide +kernel⟩, by decide⟩, ax_gw 803 (by decide +kernel) rfl, ax_gw 804 (by decide +kernel) rfl, by decide⟩
theorem gX4_heldList : ax_GV mX4_heldList 0 := ⟨⟨ax_gw 809 (by decide +kernel) rfl, ax_gw 64 (by decide +kernel) rfl, by decide +kernel, ⟨by decide +kernel, by decide +kernel, by decide +kernel⟩, by decide⟩, ax_gw 808 (by decide +kernel) rfl, ax_gw 58 (by decide +kernel) rfl, by decide⟩
theorem flX1_9 : ax_FL RX1 9 1 0 := fun r h => by cases h; exact ⟨by decide, Or.inl (ax_gw 85 (by decide +kernel) rfl)⟩
theorem flX3_255 : ax_FL RX3 255 1 0 := fun r h => by cases h; exact ⟨by decide, Or.inr ⟨"CargoTanks", ax_nw 27 (by decide +kernel) rfl⟩⟩
theorem flX1_15 : ax_FL RX1 15 1 1 := fun r h => by cases h; exact ⟨by decide, Or.inl (ax_gw 87 (by decide +kernel) rfl)⟩
theorem flX3_246 : ax_FL RX3 246 1 1 := fun r h => by cases h; exact ⟨by decide, Or.inr ⟨"CargoTanks", ax_nw 29 (by decide +kernel) rfl⟩⟩
theorem flX1_18 : ax_FL RX1 18 1 2 := fun r h => by cases h; exact ⟨by decide, Or.inl (ax_gw 89 (by decide +kernel) rfl)⟩
theorem flX3_256 : ax_FL RX3 256 1 2 := fun r h => by cases h; exact ⟨by decide, Or.inr ⟨"CargoTanks", ax_nw 31 (by decide +kernel) rfl⟩⟩
theorem flX1_21 : ax_FL RX1 21 1 3 := fun r h => by cases h; exact ⟨by decide, Or.inl (ax_gw 91 (by decide +kernel) rfl)⟩
theorem flX3_260 : ax_FL RX3 260 1 3 := fun r h => by cases h; exact ⟨by decide, Or.inr ⟨"CargoTanks", ax_nw 33 (by decide +kernel) rfl⟩⟩
theorem flX1_25 : ax_FL RX1 25 1 4 := fun r h => by cases h; exact ⟨by decide, Or.inl (ax_gw 93 (by decide +kernel) rfl)⟩
theorem flX3_262 : ax_FL RX3 262 1 4 := fun r h => by cases h; exact ⟨by decide, Or.inr ⟨"CargoTanks", ax_nw 35 (by decide +kernel) rfl⟩⟩
theorem flX1_28 : ax_FL RX1 28 1 5 := fun r h => by cases h; exact ⟨by decide, Or.inl (ax_gw 95 (by decide +kernel) rfl)⟩
theorem flX3_264 : ax_FL RX3 264 1 5 := fun r h => by cases h; exact ⟨by decide, Or.inr ⟨"CargoTanks", ax_nw 37 (by decide +kernel) rfl⟩⟩
theorem flX1_31 : ax_FL RX1 31 1 6 := fun r h => by cases h; exact ⟨by decide, Or.inl (ax_gw 97 (by decide +kernel) rfl)⟩
theorem flX3_257 : ax_FL RX3 257 1 6 := fun r h => by cases h; exact ⟨by decide, Or.inr ⟨"CargoTanks", ax_nw 39 (by decide +kernel) rfl⟩⟩
theorem flX1_34 : ax_FL RX1 34 1 7 := fun r h => by cases h; exact ⟨by decide, Or.inl (ax_gw 99 (by decide +kernel) rfl)⟩
theorem flX3_266 : ax_FL RX3 266 1 7 := fun r h => by cases h; exact ⟨by decide, Or.inr ⟨"CargoTanks", ax_nw 41 (by decide +kernel) rfl⟩⟩
theorem flX1_37 : ax_FL RX1 37 1 8 := fun r h => by cases h; exact ⟨by decide, Or.inl (ax_gw 101 (by decide +kernel) rfl)⟩
theorem flX3_269 : ax_FL RX3 269 1 8 := fun r h => by cases h; exact ⟨by decide, Or.inr ⟨"CargoTanks", ax_nw 43 (by decide +kernel) rfl⟩⟩
theorem flX1_40 : ax_FL RX1 40 1 9 := fun r h => by cases h; exact ⟨by decide, Or.inl (ax_gw 103 (by decide +kernel) rfl)⟩
theorem flX3_247 : ax_FL RX3 247 1 9 := fun r h => by cases h; exact ⟨by decide, Or.inr ⟨"CargoTanks", ax_nw 45 (by decide +kernel) rfl⟩⟩
theorem flX1_43 : ax_FL RX1 43 1 10 := fun r h => by cases h; exact ⟨by decide, Or.inl (ax_gw 105 (by decide +kernel) rfl)⟩
theorem flX3_252 : ax_FL RX3 252 1 10 := fun r h => by cases h; exact ⟨by decide, Or.inr ⟨"CargoTanks", ax_nw 47 (by decide +kernel) rfl⟩⟩
theorem flX1_46 : ax_FL RX1 46 1 11 := fun r h => by cases h; exact ⟨by decide, Or.inl (ax_gw 107 (by decide +kernel) rfl)⟩
theorem flX3_249 : ax_FL RX3 249 1 11 := fun r h => by cases h; exact ⟨by decide, Or.inr ⟨"CargoTanks", ax_nw 49 (by decide +kernel) rfl⟩⟩
theorem flX1_49 : ax_FL RX1 49 1 12 := fun r h => by cases h; exact ⟨by decide, Or.inl (ax_gw 109 (by decide +kernel) rfl)⟩
theorem flX3_278 : ax_FL RX3 278 1 12 := fun r h => by cases h; exact ⟨by decide, Or.inr ⟨"CargoTanks", ax_nw 51 (by decide +kernel) rfl⟩⟩
theorem flX1_52 : ax_FL RX1 52 1 13 := fun r h => by cases h; exact ⟨by decide, Or.inl (ax_gw 111 (by decide +kernel) rfl)⟩
theorem flX3_281 : ax_FL RX3 281 1 13 := fun r h => by cases h; exact ⟨by decide, Or.inr ⟨"CargoTanks", ax_nw 53 (by decide +kernel) rfl⟩⟩
theorem flX1_55 : ax_FL RX1 55 1 14 := fun r h => by cases h; exact ⟨by decide, Or.inl (ax_gw 113 (by decide +kernel) rfl)⟩
theorem flX3_185 : ax_FL RX3 185 1 14 := fun r h => by cases h; exact ⟨by decide, Or.inr ⟨"CargoTanks", ax_nw 55 (by decide +kernel) rfl⟩⟩
theorem flX1_58 : ax_FL RX1 58 1 15 := fun r h => by cases h; exact ⟨by decide, Or.inl (ax_gw 115 (by decide +kernel) rfl)⟩
theorem flX3_194 : ax_FL RX3 194 1 15 := fun r h => by cases h; exact ⟨by decide, Or.inr ⟨"CargoTanks", ax_nw 57 (by decide +kernel) rfl⟩⟩
theorem flX1_61 : ax_FL RX1 61 1 16 := fun r h => by cases h; exact ⟨by decide, Or.inl (ax_gw 117 (by decide +kernel) rfl)⟩
theorem flX3_197 : ax_FL RX3 197 1 16 := fun r h => by cases h; exact ⟨by decide, Or.inr ⟨"CargoTanks", ax_nw 59 (by decide +kernel) rfl⟩⟩
theorem flX1_64 : ax_FL RX1 64 1 17 := fun r h => by cases h; exact ⟨by decide, Or.inl (ax_gw 119 (by decide +kernel) rfl)⟩
theorem flX3_200 : ax_FL RX3 200 1 17 := fun r h => by cases h; exact ⟨by decide, Or.inr ⟨"CargoTanks", ax_nw 61 (by decide +kernel) rfl⟩⟩
theorem flX1_67 : ax_FL RX1 67 1 18 := fun r h => by cases h; exact ⟨by decide, Or.inl (ax_gw 121 (by decide +kernel) rfl)⟩
theorem flX3_191 : ax_FL RX3 191 1 18 := fun r h => by cases h; exact ⟨by decide, Or.inr ⟨"CargoTanks", ax_nw 63 (by decide +kernel) rfl⟩⟩
theorem flX1_70 : ax_FL RX1 70 1 19 := fun r h => by cases h; exact ⟨by decide, Or.inl (ax_gw 123 (by decide +kernel) rfl)⟩
theorem flX3_188 : ax_FL RX3 188 1 19 := fun r h => by cases h; exact ⟨by decide, Or.inr ⟨"CargoTanks", ax_nw 65 (by decide +kernel) rfl⟩⟩
theorem flX2_9 : ax_FL RX2 9 2 0 := fun r h => by cases h; exact ⟨by decide, Or.inl (ax_gw 172 (by decide +kernel) rfl)⟩
theorem flX3_64 : ax_FL RX3 64 2 0 := fun r h => by cases h; exact ⟨by decide, Or.inr ⟨"CargoTanks", ax_nw 114 (by decide +kernel) rfl⟩⟩
theorem flX2_15 : ax_FL RX2 15 2 1 := fun r h => by cases h; exact ⟨by decide, Or.inl (ax_gw 174 (by decide +kernel) rfl)⟩
theorem flX3_67 : ax_FL RX3 67 2 1 := fun r h => by cases h; exact ⟨by decide, Or.inr ⟨"CargoTanks", ax_nw 116 (by decide +kernel) rfl⟩⟩
theorem flX2_18 : ax_FL RX2 18 2 2 := fun r h => by cases h; exact ⟨by decide, Or.inl (ax_gw 176 (by decide +kernel) rfl)⟩
theorem flX3_70 : ax_FL RX3 70 2 2 := fun r h => by cases h; exact ⟨by decide, Or.inr ⟨"CargoTanks", ax_nw 118 (by decide +kernel) rfl⟩⟩
theorem flX2_21 : ax_FL RX2 21 2 3 := fun r h => by cases h; exact ⟨by decide, Or.inl (ax_gw 178 (by decide +kernel) rfl)⟩
theorem flX3_77 : ax_FL RX3 77 2 3 := fun r h => by cases h; exact ⟨by decide, Or.inr ⟨"CargoTanks", ax_nw 120 (by decide +kernel) rfl⟩⟩
theorem flX2_24 : ax_FL RX2 24 2 4 := fun r h => by cases h; exact ⟨by decide, Or.inl (ax_gw 180 (by decide +kernel) rfl)⟩
theorem flX3_90 : ax_FL RX3 90 2 4 := fun r h => by cases h; exact ⟨by decide, Or.inr ⟨"CargoTanks", ax_nw 122 (by decide +kernel) rfl⟩⟩
theorem flX2_28 : ax_FL RX2 28 2 5 := fun r h => by cases h; exact ⟨by decide, Or.inl (ax_gw 182 (by decide +kernel) rfl)⟩
theorem flX3_124 : ax_FL RX3 124 2 5 := fun r h => by cases h; exact ⟨by decide, Or.inr ⟨"CargoTanks", ax_nw 124 (by decide +kernel) rfl⟩⟩
theorem flX2_31 : ax_FL RX2 31 2 6 := fun r h => by cases h; exact ⟨by decide, Or.inl (ax_gw 184 (by decide +kernel) rfl)⟩
theorem flX3_127 : ax_FL RX3 127 2 6 := fun r h => by cases h; exact ⟨by decide, Or.inr ⟨"CargoTanks", ax_nw 126 (by decide +kernel) rfl⟩⟩
theorem flX0_7 : ax_FL RX0 7 0 0 := fun r h => by cases h; exact ⟨by decide, Or.inl (ax_gw 206 (by decide +kernel) rfl)⟩
theorem flX3_99 : ax_FL RX3 99 0 0 := fun r h => by cases h; exact ⟨by decide, Or.inr ⟨"CargoTanks", ax_nw 148 (by decide +kernel) rfl⟩⟩
theorem flX0_13 : ax_FL RX0 13 0 1 := fun r h => by cases h; exact ⟨by decide, Or.inl (ax_gw 208 (by decide +kernel) rfl)⟩
theorem flX3_102 : ax_FL RX3 102 0 1 := fun r h => by cases h; exact ⟨by decide, Or.inr ⟨"CargoTanks", ax_nw 150 (by decide +kernel) rfl⟩⟩
theorem flX0_16 : ax_FL RX0 16 0 2 := fun r h => by cases h; exact ⟨by decide, Or.inl (ax_gw 210 (by decide +kernel) rfl)⟩
theorem flX3_105 : ax_FL RX3 105 0 2 := fun r h => by cases h; exact ⟨by decide, Or.inr ⟨"CargoTanks", ax_nw 152 (by decide +kernel) rfl⟩⟩
theorem flX0_19 : ax_FL RX0 19 0 3 := fun r h => by cases h; exact ⟨by decide, Or.inl (ax_gw 212 (by decide +kernel) rfl)⟩
theorem flX3_108 : ax_FL RX3 108 0 3 := fun r h => by cases h; exact ⟨by decide, Or.inr ⟨"CargoTanks", ax_nw 154 (by decide +kernel) rfl⟩⟩
theorem flX0_22 : ax_FL RX0 22 0 4 := fun r h => by cases h; exact ⟨by decide, Or.inl (ax_gw 214 (by decide +kernel) rfl)⟩
theorem flX3_111 : ax_FL RX3 111 0 4 := fun r h => by cases h; exact ⟨by decide, Or.inr ⟨"CargoTanks", ax_nw 156 (by decide +kernel) rfl⟩⟩
theorem flX0_25 : ax_FL RX0 25 0 5 := fun r h => by cases h; exact ⟨by decide, Or.inl (ax_gw 216 (by decide +kernel) rfl)⟩
theorem flX3_114 : ax_FL RX3 114 0 5 := fun r h => by cases h; exact ⟨by decide, Or.inr ⟨"CargoTanks", ax_nw 158 (by decide +kernel) rfl⟩⟩
theorem flX3_11 : ax_FL RX3 11 3 0 := fun r h => by cases h; exact ⟨by decide, Or.inl (ax_gw 231 (by decide +kernel) rfl)⟩
theorem flX3_17 : ax_FL RX3 17 3 1 := fun r h => by cases h; exact ⟨by decide, Or.inl (ax_gw 232 (by decide +kernel) rfl)⟩
theorem flX3_21 : ax_FL RX3 21 3 2 := fun r h => by cases h; exact ⟨by decide, Or.inl (ax_gw 233 (by decide +kernel) rfl)⟩
theorem flX3_28 : ax_FL RX3 28 3 3 := fun r h => by cases h; exact ⟨by decide, Or.inl (ax_gw 234 (by decide +kernel) rfl)⟩
theorem flX3_32 : ax_FL RX3 32 3 4 := fun r h => by cases h; exact ⟨by decide, Or.inl (ax_gw 235 (by decide +kernel) rfl)⟩
theorem flX3_35 : ax_FL RX3 35 3 5 := fun r h => by cases h; exact ⟨by decide, Or.inl (ax_gw 236 (by decide +kernel) rfl)⟩
theorem flX3_38 : ax_FL RX3 38 3 6 := fun r h => by cases h; exact ⟨by decide, Or.inl (ax_gw 237 (by decide +kernel) rfl)⟩
theorem flX3_41 : ax_FL RX3 41 3 7 := fun r h => by cases h; exact ⟨by decide, Or.inl (ax_gw 238 (by decide +kernel) rfl)⟩
theorem flX3_45 : ax_FL RX3 45 3 8 := fun r h => by cases h; exact ⟨by decide, Or.inl (ax_gw 239 (by decide +kernel) rfl)⟩
theorem flX3_48 : ax_FL RX3 48 3 9 := fun r h => by cases h; exact ⟨by decide, Or.inl (ax_gw 240 (by decide +kernel) rfl)⟩
theorem flX3_51 : ax_FL RX3 51 3 10 := fun r h => by cases h; exact ⟨by decide, Or.inl (ax_gw 241 (by decide +kernel) rfl)⟩
theorem flX3_54 : ax_FL RX3 54 3 11 := fun r h => by cases h; exact ⟨by decide, Or.inl (ax_gw 242 (by decide +kernel) rfl)⟩
theorem lkL_13 : ax_LK RL 13 yX3_tank := Or.inl (ax_gw 268 (by decide +kernel) rfl)
theorem lkX3_60 : ax_LK RX3 60 yX3_within := Or.inl (ax_gw 272 (by decide +kernel) rfl)
theorem lkL_18 : ax_LK RL 18 yX3_neighbours := Or.inl (ax_gw 275 (by decide +kernel) rfl)
theorem lkX3_73 : ax_LK RX3 73 yX3_areTwoTanks := Or.inl (ax_gw 279 (by decide +kernel) rfl)
theorem lkX3_83 : ax_LK RX3 83 yX3_isTank := Or.inl (ax_gw 283 (by decide +kernel) rfl)
theorem lkX3_80 : ax_LK RX3 80 yX3_has := Or.inl (ax_gw 287 (by decide +kernel) rfl)
theorem lkL_23 : ax_LK RL 23 yX3_latest := Or.inl (ax_gw 290 (by decide +kernel) rfl)
theorem lkX3_87 : ax_LK RX3 87 yX3_isLiquid := Or.inl (ax_gw 294 (by decide +kernel) rfl)
theorem lkL_27 : ax_LK RL 27 yX3_cargo := Or.inl (ax_gw 297 (by decide +kernel) rfl)
theorem lkX3_93 : ax_LK RX3 93 yX3_isAmount := Or.inl (ax_gw 301 (by decide +kernel) rfl)
theorem lkX3_96 : ax_LK RX3 96 yX3_isLiquidSet := Or.inl (ax_gw 304 (by decide +kernel) rfl)
theorem lkL_32 : ax_LK RL 32 yX3_uncargo := Or.inl (ax_gw 307 (by decide +kernel) rfl)
theorem lkX3_117 : ax_LK RX3 117 yX3_tanksThatHold := Or.inl (ax_gw 311 (by decide +kernel) rfl)
theorem lkL_37 : ax_LK RL 37 yX3_amount := Or.inl (ax_gw 315 (by decide +kernel) rfl)
theorem lkX3_121 : ax_LK RX3 121 yX3_isCargo := Or.inl (ax_gw 319 (by decide +kernel) rfl)
theorem lkL_42 : ax_LK RL 42 yX3_washes := Or.inl (ax_gw 323 (by decide +kernel) rfl)
theorem lkL_46 : ax_LK RL 46 yX3_bound := Or.inl (ax_gw 327 (by decide +kernel) rfl)
theorem lkL_51 : ax_LK RL 51 yX3_ofTank := Or.inl (ax_gw 331 (by decide +kernel) rfl)
theorem lkL_55 : ax_LK RL 55 yX3_ofCargo := Or.inl (ax_gw 335 (by decide +kernel) rfl)
theorem lkX3_130 : ax_LK RX3 130 yX3_tanksThatSuit := Or.inl (ax_gw 339 (by decide +kernel) rfl)
theorem lkX3_141 : ax_LK RX3 141 yX3_faults := Or.inl (ax_gw 343 (by decide +kernel) rfl)
theorem lkX3_134 : ax_LK RX3 134 yX3_cargoesThatClash := Or.inl (ax_gw 347 (by decide +kernel) rfl)
theorem lkX3_220 : ax_LK RX3 220 yX3_clash := Or.inl (ax_gw 351 (by decide +kernel) rfl)
theorem lkL_59 : ax_LK RL 59 yX3_needs := Or.inl (ax_gw 354 (by decide +kernel) rfl)
theorem lkX3_137 : ax_LK RX3 137 yX3_washesNeeded := Or.inl (ax_gw 358 (by decide +kernel) rfl)
theorem lkL_63 : ax_LK RL 63 yX3_why := Or.inl (ax_gw 362 (by decide +kernel) rfl)
theorem lkL_67 : ax_LK RL 67 yX3_plan := Or.inl (ax_gw 366 (by decide +kernel) rfl)
theorem lkL_71 : ax_LK RL 71 yX3_broken := Or.inl (ax_gw 370 (by decide +kernel) rfl)
theorem lkX3_144 : ax_LK RX3 144 yX3_isCargoSet := Or.inl (ax_gw 374 (by decide +kernel) rfl)
theorem lkX3_147 : ax_LK RX3 147 yX3_toldGoesBeyond := Or.inl (ax_gw 378 (by decide +kernel) rfl)
theorem lkX3_150 : ax_LK RX3 150 yX3_toldDoesNotSuit := Or.inl (ax_gw 382 (by decide +kernel) rfl)
theorem lkX3_154 : ax_LK RX3 154 yX3_toldClashes := Or.inl (ax_gw 386 (by decide +kernel) rfl)
theorem lkX3_157 : ax_LK RX3 157 yX3_stowTold := Or.inl (ax_gw 390 (by decide +kernel) rfl)
theorem lkX3_224 : Cond.methodLink RX3 224 Lib.Math.min.name ∈ ax_GW := ax_gw 394 (by decide +kernel) rfl
theorem lkX3_160 : ax_LK RX3 160 yX3_toldLeavesSomeOf := Or.inl (ax_gw 397 (by decide +kernel) rfl)
theorem lkX3_163 : ax_LK RX3 163 yX3_toldLeavesTankEmpty := Or.inl (ax_gw 401 (by decide +kernel) rfl)
theorem lkX3_166 : ax_LK RX3 166 yX3_toldList := Or.inl (ax_gw 405 (by decide +kernel) rfl)
theorem lkX3_170 : Cond.methodLink RX3 170 Lib.Math.abs.name ∈ ax_GW := ax_gw 409 (by decide +kernel) rfl
theorem lkL_75 : ax_LK RL 75 yX3_ofPlan := Or.inl (ax_gw 412 (by decide +kernel) rfl)
theorem lkX3_175 : ax_LK RX3 175 yX3_toldCost := Or.inl (ax_gw 416 (by decide +kernel) rfl)
theorem lkX3_178 : ax_LK RX3 178 yX3_toldTanks := Or.inl (ax_gw 420 (by decide +kernel) rfl)
theorem kcX3_181 : Cond.constant RX3 181 (100000 : Int32) ∈ ax_GW := ax_gw 424 (by decide +kernel) rfl
theorem lkL_79 : ax_LK RL 79 yX3_best := Or.inl (ax_gw 425 (by decide +kernel) rfl)
theorem lkX3_182 : ax_LK RX3 182 yX3_searchIfStale := Or.inl (ax_gw 429 (by decide +kernel) rfl)
theorem lkX3_236 : ax_LK RX3 236 yX3_noteCargoes := Or.inl (ax_gw 433 (by decide +kernel) rfl)
theorem lkX3_239 : ax_LK RX3 239 yX3_noteTanks := Or.inl (ax_gw 437 (by decide +kernel) rfl)
theorem lkX3_242 : ax_LK RX3 242 yX3_tryTank := Or.inl (ax_gw 441 (by decide +kernel) rfl)
theorem lkX3_272 : ax_LK RX3 272 yX1_keepIfBetter := Or.inr ⟨"CargoTanks", ax_nw 385 (by decide +kernel) rfl⟩
theorem lkX1_77 : Cond.methodLink RX1 77 Lib.Math.abs.name ∈ ax_GW := ax_gw 448 (by decide +kernel) rfl
theorem lkX3_275 : ax_LK RX3 275 yX1_openTo := Or.inr ⟨"CargoTanks", ax_nw 390 (by decide +kernel) rfl⟩
theorem lkX1_73 : ax_LK RX1 73 yX3_has := Or.inr ⟨"CargoTanks", ax_nw 394 (by decide +kernel) rfl⟩
theorem lkL_83 : ax_LK RL 83 yX3_taken := Or.inl (ax_gw 454 (by decide +kernel) rfl)
theorem lkX3_203 : ax_LK RX3 203 yX3_takenSet := Or.inl (ax_gw 458 (by decide +kernel) rfl)
theorem lkX3_228 : ax_LK RX3 228 yX3_amountsOf := Or.inl (ax_gw 462 (by decide +kernel) rfl)
theorem lkX3_231 : ax_LK RX3 231 yJ6_bitCount_0f7a4 := Or.inl (ax_gw 466 (by decide +kernel) rfl)
theorem kcJ6_265 : Cond.constant RJ6 265 (1431655765 : Int32) ∈ ax_GW := ax_gw 469 (by decide +kernel) rfl
theorem kcJ6_266 : Cond.constant RJ6 266 (858993459 : Int32) ∈ ax_GW := ax_gw 470 (by decide +kernel) rfl
theorem kcJ6_267 : Cond.constant RJ6 267 (252645135 : Int32) ∈ ax_GW := ax_gw 471 (by decide +kernel) rfl
theorem lkL_87 : ax_LK RL 87 yX3_load := Or.inl (ax_gw 472 (by decide +kernel) rfl)
theorem lkX3_206 : ax_LK RX3 206 yX3_tanksInUse := Or.inl (ax_gw 476 (by decide +kernel) rfl)
theorem lkL_91 : ax_LK RL 91 yX3_unload := Or.inl (ax_gw 480 (by decide +kernel) rfl)
theorem lkX3_209 : ax_LK RX3 209 yX2_leaveEmpty := Or.inr ⟨"CargoTanks", ax_nw 425 (by decide +kernel) rfl⟩
theorem lkL_95 : ax_LK RL 95 yX3_pour := Or.inl (ax_gw 488 (by decide +kernel) rfl)
theorem lkX3_213 : ax_LK RX3 213 yX3_mayComeInto := Or.inl (ax_gw 492 (by decide +kernel) rfl)
theorem lkL_99 : ax_LK RL 99 yX3_many := Or.inl (ax_gw 496 (by decide +kernel) rfl)
theorem lkX3_217 : ax_LK RX3 217 yX3_heldList := Or.inl (ax_gw 500 (by decide +kernel) rfl)
theorem flX4_75 : ax_FL RX4 75 4 0 := fun r h => by cases h; exact ⟨by decide, Or.inl (ax_gw 510 (by decide +kernel) rfl)⟩
theorem flX4_7 : ax_FL RX4 7 4 1 := fun r h => by cases h; exact ⟨by decide, Or.inl (ax_gw 511 (by decide +kernel) rfl)⟩
theorem flX4_13 : ax_FL RX4 13 4 2 := fun r h => by cases h; exact ⟨by decide, Or.inl (ax_gw 512 (by decide +kernel) rfl)⟩
theorem flX4_16 : ax_FL RX4 16 4 3 := fun r h => by cases h; exact ⟨by decide, Or.inl (ax_gw 513 (by decide +kernel) rfl)⟩
theorem flX4_19 : ax_FL RX4 19 4 4 := fun r h => by cases h; exact ⟨by decide, Or.inl (ax_gw 514 (by decide +kernel) rfl)⟩
theorem flX4_22 : ax_FL RX4 22 4 5 := fun r h => by cases h; exact ⟨by decide, Or.inl (ax_gw 515 (by decide +kernel) rfl)⟩
theorem flX4_25 : ax_FL RX4 25 4 6 := fun r h => by cases h; exact ⟨by decide, Or.inl (ax_gw 516 (by decide +kernel) rfl)⟩
theorem flX4_28 : ax_FL RX4 28 4 7 := fun r h => by cases h; exact ⟨by decide, Or.inl (ax_gw 517 (by decide +kernel) rfl)⟩
theorem flX4_31 : ax_FL RX4 31 4 8 := fun r h => by cases h; exact ⟨by decide, Or.inl (ax_gw 518 (by decide +kernel) rfl)⟩
theorem flX4_92 : ax_FL RX4 92 4 9 := fun r h => by cases h; exact ⟨by decide, Or.inl (ax_gw 519 (by decide +kernel) rfl)⟩
theorem flX4_34 : ax_FL RX4 34 4 10 := fun r h => by cases h; exact ⟨by decide, Or.inl (ax_gw 520 (by decide +kernel) rfl)⟩
theorem flX4_37 : ax_FL RX4 37 4 11 := fun r h => by cases h; exact ⟨by decide, Or.inl (ax_gw 521 (by decide +kernel) rfl)⟩
theorem flX4_40 : ax_FL RX4 40 4 12 := fun r h => by cases h; exact ⟨by decide, Or.inl (ax_gw 522 (by decide +kernel) rfl)⟩
theorem flX4_43 : ax_FL RX4 43 4 13 := fun r h => by cases h; exact ⟨by decide, Or.inl (ax_gw 523 (by decide +kernel) rfl)⟩
theorem flX4_46 : ax_FL RX4 46 4 14 := fun r h => by cases h; exact ⟨by decide, Or.inl (ax_gw 524 (by decide +kernel) rfl)⟩
theorem flX4_49 : ax_FL RX4 49 4 15 := fun r h => by cases h; exact ⟨by decide, Or.inl (ax_gw 525 (by decide +kernel) rfl)⟩
theorem flX4_52 : ax_FL RX4 52 4 16 := fun r h => by cases h; exact ⟨by decide, Or.inl (ax_gw 526 (by decide +kernel) rfl)⟩
theorem flX4_55 : ax_FL RX4 55 4 17 := fun r h => by cases h; exact ⟨by decide, Or.inl (ax_gw 527 (by decide +kernel) rfl)⟩
theorem flX4_59 : ax_FL RX4 59 4 18 := fun r h => by cases h; exact ⟨by decide, Or.inl (ax_gw 528 (by decide +kernel) rfl)⟩
theorem flX4_62 : ax_FL RX4 62 4 19 := fun r h => by cases h; exact ⟨by decide, Or.inl (ax_gw 529 (by decide +kernel) rfl)⟩
theorem flX4_160 : ax_FL RX4 160 4 20 := fun r h => by cases h; exact ⟨by decide, Or.inl (ax_gw 530 (by decide +kernel) rfl)⟩
theorem flX4_170 : ax_FL RX4 170 4 21 := fun r h => by cases h; exact ⟨by decide, Or.inl (ax_gw 531 (by decide +kernel) rfl)⟩
theorem flX4_173 : ax_FL RX4 173 4 22 := fun r h => by cases h; exact ⟨by decide, Or.inl (ax_gw 532 (by decide +kernel) rfl)⟩
theorem flX4_65 : ax_FL RX4 65 4 23 := fun r h => by cases h; exact ⟨by decide, Or.inl (ax_gw 533 (by decide +kernel) rfl)⟩
theorem flX4_68 : ax_FL RX4 68 4 24 := fun r h => by cases h; exact ⟨by decide, Or.inl (ax_gw 534 (by decide +kernel) rfl)⟩
theorem flX4_195 : ax_FL RX4 195 4 25 := fun r h => by cases h; exact ⟨by decide, Or.inl (ax_gw 535 (by decide +kernel) rfl)⟩
theorem lkL_17 : ax_LK RL 17 yX4_tank := Or.inl (ax_gw 589 (by decide +kernel) rfl)
theorem lkX4_71 : ax_LK RX4 71 yX4_within := Or.inl (ax_gw 593 (by decide +kernel) rfl)
theorem lkL_22 : ax_LK RL 22 yX4_neighbours := Or.inl (ax_gw 596 (by decide +kernel) rfl)
theorem lkX4_82 : ax_LK RX4 82 yX4_areTwo := Or.inl (ax_gw 600 (by decide +kernel) rfl)
theorem lkX4_78 : ax_LK RX4 78 yX4_isTank := Or.inl (ax_gw 604 (by decide +kernel) rfl)
theorem lkX4_86 : ax_LK RX4 86 yX4_has := Or.inl (ax_gw 608 (by decide +kernel) rfl)
theorem lkL_26 : ax_LK RL 26 yX4_latest := Or.inl (ax_gw 611 (by decide +kernel) rfl)
theorem lkX4_89 : ax_LK RX4 89 yX4_isLiquid := Or.inl (ax_gw 615 (by decide +kernel) rfl)
theorem lkL_31 : ax_LK RL 31 yX4_cargo := Or.inl (ax_gw 618 (by decide +kernel) rfl)
theorem lkX4_95 : ax_LK RX4 95 yX4_isSet := Or.inl (ax_gw 622 (by decide +kernel) rfl)
theorem lkL_36 : ax_LK RL 36 yX4_uncargo := Or.inl (ax_gw 625 (by decide +kernel) rfl)
theorem lkX4_98 : ax_LK RX4 98 yX4_holders := Or.inl (ax_gw 629 (by decide +kernel) rfl)
theorem lkL_41 : ax_LK RL 41 yX4_amount := Or.inl (ax_gw 633 (by decide +kernel) rfl)
theorem lkX4_102 : ax_LK RX4 102 yX4_isCargo := Or.inl (ax_gw 637 (by decide +kernel) rfl)
theorem lkL_45 : ax_LK RL 45 yX4_washes := Or.inl (ax_gw 641 (by decide +kernel) rfl)
theorem lkL_50 : ax_LK RL 50 yX4_bound := Or.inl (ax_gw 645 (by decide +kernel) rfl)
theorem lkL_54 : ax_LK RL 54 yX4_ofTank := Or.inl (ax_gw 649 (by decide +kernel) rfl)
theorem lkL_58 : ax_LK RL 58 yX4_ofCargo := Or.inl (ax_gw 653 (by decide +kernel) rfl)
theorem lkX4_112 : ax_LK RX4 112 yX4_suited := Or.inl (ax_gw 657 (by decide +kernel) rfl)
theorem lkX4_108 : ax_LK RX4 108 yX4_whyNot := Or.inl (ax_gw 661 (by decide +kernel) rfl)
theorem lkX4_115 : ax_LK RX4 115 yX4_clashes := Or.inl (ax_gw 665 (by decide +kernel) rfl)
theorem lkX4_105 : ax_LK RX4 105 yX4_doClash := Or.inl (ax_gw 669 (by decide +kernel) rfl)
theorem lkL_62 : ax_LK RL 62 yX4_needs := Or.inl (ax_gw 673 (by decide +kernel) rfl)
theorem lkX4_118 : ax_LK RX4 118 yX4_washesFor := Or.inl (ax_gw 677 (by decide +kernel) rfl)
theorem lkL_66 : ax_LK RL 66 yX4_why := Or.inl (ax_gw 681 (by decide +kernel) rfl)
theorem lkL_70 : ax_LK RL 70 yX4_plan := Or.inl (ax_gw 685 (by decide +kernel) rfl)
theorem lkL_74 : ax_LK RL 74 yX4_broken := Or.inl (ax_gw 689 (by decide +kernel) rfl)
theorem lkX4_144 : ax_LK RX4 144 yX4_isSetOfCargoes := Or.inl (ax_gw 693 (by decide +kernel) rfl)
theorem lkX4_147 : ax_LK RX4 147 yX4_triesPlan := Or.inl (ax_gw 697 (by decide +kernel) rfl)
theorem lkX4_150 : ax_LK RX4 150 yX4_brokenBy := Or.inl (ax_gw 701 (by decide +kernel) rfl)
theorem lkX4_121 : ax_LK RX4 121 yX4_hasOther := Or.inl (ax_gw 705 (by decide +kernel) rfl)
theorem lkX4_124 : ax_LK RX4 124 yX4_hasUnfit := Or.inl (ax_gw 709 (by decide +kernel) rfl)
theorem lkX4_128 : ax_LK RX4 128 yX4_hasClash := Or.inl (ax_gw 713 (by decide +kernel) rfl)
theorem lkX4_131 : ax_LK RX4 131 yX4_hasTooMuch := Or.inl (ax_gw 717 (by decide +kernel) rfl)
theorem lkX4_134 : ax_LK RX4 134 yX4_fills := Or.inl (ax_gw 721 (by decide +kernel) rfl)
theorem lkX4_137 : ax_LK RX4 137 yX4_hasEmpty := Or.inl (ax_gw 725 (by decide +kernel) rfl)
theorem lkX4_140 : ax_LK RX4 140 yX4_listOf := Or.inl (ax_gw 729 (by decide +kernel) rfl)
theorem lkL_78 : ax_LK RL 78 yX4_ofPlan := Or.inl (ax_gw 733 (by decide +kernel) rfl)
theorem lkX4_153 : ax_LK RX4 153 yX4_costOf := Or.inl (ax_gw 737 (by decide +kernel) rfl)
theorem lkX4_156 : ax_LK RX4 156 yX4_usedOf := Or.inl (ax_gw 741 (by decide +kernel) rfl)
theorem kcX4_159 : Cond.constant RX4 159 (100000 : Int32) ∈ ax_GW := ax_gw 745 (by decide +kernel) rfl
theorem lkL_82 : ax_LK RL 82 yX4_best := Or.inl (ax_gw 746 (by decide +kernel) rfl)
theorem lkX4_176 : ax_LK RX4 176 yX4_findBest := Or.inl (ax_gw 750 (by decide +kernel) rfl)
theorem lkX4_163 : ax_LK RX4 163 yX4_lays := Or.inl (ax_gw 754 (by decide +kernel) rfl)
theorem lkX4_167 : ax_LK RX4 167 yX4_keepsBest := Or.inl (ax_gw 758 (by decide +kernel) rfl)
theorem lkX4_180 : ax_LK RX4 180 yX4_triesBest := Or.inl (ax_gw 762 (by decide +kernel) rfl)
theorem lkL_86 : ax_LK RL 86 yX4_taken := Or.inl (ax_gw 766 (by decide +kernel) rfl)
theorem lkX4_189 : ax_LK RX4 189 yX4_isBetter := Or.inl (ax_gw 770 (by decide +kernel) rfl)
theorem lkX4_183 : ax_LK RX4 183 yX4_amountsOf := Or.inl (ax_gw 774 (by decide +kernel) rfl)
theorem lkX4_186 : ax_LK RX4 186 yX4_sizeOf := Or.inl (ax_gw 778 (by decide +kernel) rfl)
theorem lkL_90 : ax_LK RL 90 yX4_load := Or.inl (ax_gw 781 (by decide +kernel) rfl)
theorem lkX4_192 : ax_LK RX4 192 yX4_taken := Or.inl (ax_gw 785 (by decide +kernel) rfl)
theorem lkL_94 : ax_LK RL 94 yX4_unload := Or.inl (ax_gw 786 (by decide +kernel) rfl)
theorem lkX4_198 : ax_LK RX4 198 yX4_empties := Or.inl (ax_gw 790 (by decide +kernel) rfl)
theorem lkL_98 : ax_LK RL 98 yX4_pour := Or.inl (ax_gw 794 (by decide +kernel) rfl)
theorem lkX4_201 : ax_LK RX4 201 yX4_mayTake := Or.inl (ax_gw 798 (by decide +kernel) rfl)
theorem lkL_102 : ax_LK RL 102 yX4_many := Or.inl (ax_gw 802 (by decide +kernel) rfl)
theorem lkX4_204 : ax_LK RX4 204 yX4_heldList := Or.inl (ax_gw 806 (by decide +kernel) rfl)
theorem pf_0_0 (v : Int32) : ax_PF 0 0 v := fun r h => by cases h; exact ⟨rfl, .int, by decide +kernel, rfl, rfl⟩
theorem pf_0_1 (v : Int32) : ax_PF 0 1 v := fun r h => by cases h; exact ⟨rfl, .int, by decide +kernel, rfl, rfl⟩
theorem pf_0_2 (v : Int32) : ax_PF 0 2 v := fun r h => by cases h; exact ⟨rfl, .int, by decide +kernel, rfl, rfl⟩
theorem pf_0_3 (v : Int32) : ax_PF 0 3 v := fun r h => by cases h; exact ⟨rfl, .int, by decide +kernel, rfl, rfl⟩
theorem pf_0_4 (v : Int32) : ax_PF 0 4 v := fun r h => by cases h; exact ⟨rfl, .int, by decide +kernel, rfl, rfl⟩
theorem pf_0_5 (v : Int32) : ax_PF 0 5 v := fun r h => by cases h; exact ⟨rfl, .int, by decide +kernel, rfl, rfl⟩
theorem pf_1_0 (v : Int32) : ax_PF 1 0 v := fun r h => by cases h; exact ⟨rfl, .int, by decide +kernel, rfl, rfl⟩
theorem pf_1_1 (v : Int32) : ax_PF 1 1 v := fun r h => by cases h; exact ⟨rfl, .int, by decide +kernel, rfl, rfl⟩
theorem pf_1_2 (v : Int32) : ax_PF 1 2 v := fun r h => by cases h; exact ⟨rfl, .int, by decide +kernel, rfl, rfl⟩
theorem pf_2_0 (v : Int32) : ax_PF 2 0 v := fun r h => by cases h; exact ⟨rfl, .int, by decide +kernel, rfl, rfl⟩
theorem pf_2_1 (v : Int32) : ax_PF 2 1 v := fun r h => by cases h; exact ⟨rfl, .int, by decide +kernel, rfl, rfl⟩
theorem pf_2_2 (v : Int32) : ax_PF 2 2 v := fun r h => by cases h; exact ⟨rfl, .int, by decide +kernel, rfl, rfl⟩
theorem pf_2_3 (v : Int32) : ax_PF 2 3 v := fun r h => by cases h; exact ⟨rfl, .int, by decide +kernel, rfl, rfl⟩
theorem pf_2_5 (v : Int32) : ax_PF 2 5 v := fun r h => by cases h; exact ⟨rfl, .int, by decide +kernel, rfl, rfl⟩
theorem pf_2_6 (v : Int32) : ax_PF 2 6 v := fun r h => by cases h; exact ⟨rfl, .int, by decide +kernel, rfl, rfl⟩
theorem pf_3_7 (v : Int32) : ax_PF 3 7 v := fun r h => by cases h; exact ⟨rfl, .int, by decide +kernel, rfl, rfl⟩
theorem pf_3_8 (v : Int32) : ax_PF 3 8 v := fun r h => by cases h; exact ⟨rfl, .int, by decide +kernel, rfl, rfl⟩
theorem pf_3_9 (v : Int32) : ax_PF 3 9 v := fun r h => by cases h; exact ⟨rfl, .int, by decide +kernel, rfl, rfl⟩
theorem pf_3_10 (v : Int32) : ax_PF 3 10 v := fun r h => by cases h; exact ⟨rfl, .int, by decide +kernel, rfl, rfl⟩
theorem pf_3_11_0 : ax_PF 3 11 0 := fun r h => by cases h; exact ⟨rfl, .boolean, by decide +kernel, by decide +kernel, by decide +kernel⟩
theorem pf_3_11_1 : ax_PF 3 11 1 := fun r h => by cases h; exact ⟨rfl, .boolean, by decide +kernel, by decide +kernel, by decide +kernel⟩
theorem pf_4_0 (v : Int32) : ax_PF 4 0 v := fun r h => by cases h; exact ⟨rfl, .int, by decide +kernel, rfl, rfl⟩
theorem pf_4_9 (v : Int32) : ax_PF 4 9 v := fun r h => by cases h; exact ⟨rfl, .int, by decide +kernel, rfl, rfl⟩
theorem pf_4_17 (v : Int32) : ax_PF 4 17 v := fun r h => by cases h; exact ⟨rfl, .int, by decide +kernel, rfl, rfl⟩
theorem pf_4_20 (v : Int32) : ax_PF 4 20 v := fun r h => by cases h; exact ⟨rfl, .int, by decide +kernel, rfl, rfl⟩
theorem pf_4_21 (v : Int32) : ax_PF 4 21 v := fun r h => by cases h; exact ⟨rfl, .int, by decide +kernel, rfl, rfl⟩
theorem pf_4_22 (v : Int32) : ax_PF 4 22 v := fun r h => by cases h; exact ⟨rfl, .int, by decide +kernel, rfl, rfl⟩
theorem pf_4_25 (v : Int32) : ax_PF 4 25 v := fun r h => by cases h; exact ⟨rfl, .int, by decide +kernel, rfl, rfl⟩
end
section
/-! ===== loops, booleans, switches ===== -/
theorem ax_loop {P : Nat → Prop} (n : Nat) (hx : P n) (hs : ∀ i, i < n → P (i + 1) → P i) : ∀ i, i ≤ n → P i := by
  have key : ∀ k i, n - i = k → i ≤ n → P i := by
    intro k
    induction k with
    | zero =>
      intro i h1 h2
      have : i = n := by omega
      subst this
      exact hx
    | succ k ih =>
      intro i h1 h2
      exact hs i (by omega) (ih (i + 1) (by omega) (by omega))
  exact fun i h => key _ i rfl h
/-- i-th power of a loop's body -/
def lp {α : Type} (n : Nat) (f : Nat → α → α) (a : α) : α := match n with
  | 0 => a
  | n + 1 => f n (lp n f a)
theorem lp_0 {α : Type} (f : Nat → α → α) (a : α) : lp 0 f a = a := rfl
theorem lp_s {α : Type} (n : Nat) (f : Nat → α → α) (a : α) : lp (n + 1) f a = f n (lp n f a) := rfl
def bI (p : Prop) [Decidable p] : Int32 := if p then 1 else 0
theorem bI_t {p : Prop} [Decidable p] (h : p) : bI p = 1 := if_pos h
theorem bI_f {p : Prop} [Decidable p] (h : ¬ p) : bI p = 0 := if_neg h
theorem bI_0 {p : Prop} [Decidable p] : bI p = 0 ↔ ¬ p := by
  unfold bI
  split
  · rename_i h; exact ⟨fun e => absurd e (by decide), fun z => absurd h z⟩
  · rename_i h; exact ⟨fun _ => h, fun _ => rfl⟩
theorem bI_1 {p : Prop} [Decidable p] : bI p = 1 ↔ p := by
  unfold bI
  split
  · rename_i h; exact ⟨fun _ => h, fun _ => rfl⟩
  · rename_i h; exact ⟨fun e => absurd e (by decide), fun z => absurd z h⟩
theorem bI_c {p q : Prop} [Decidable p] [Decidable q] (h : p ↔ q) : bI p = bI q := by
  unfold bI
  split
  · rename_i a; rw [if_pos (h.mp a)]
  · rename_i a; rw [if_neg (fun z => a (h.mpr z))]
theorem kb_t {P : Prop} [Decidable P] {K : ax_K} {σ : SS} (hK : K (some (bI P)) σ) (h : P) : K (some 1) σ := by rw [← bI_t h]; exact hK
theorem kb_f {P : Prop} [Decidable P] {K : ax_K} {σ : SS} (hK : K (some (bI P)) σ) (h : ¬ P) : K (some 0) σ := by rw [← bI_f h]; exact hK
section AWb
variable {d : Nat} {M : ax_M} {pc q : Nat} {ls : List (Option AV)} {st : List AV} {σ : SS} {K : ax_K}
theorem aw_if_eqb {P : Prop} [Decidable P] {off : Int} {tgt : Nat} (hd : decode M.2.1 pc = .ok (.ifCond .eq off, 3)) (ht : (pc : Int) + off = (tgt : Int)) (hq : pc + 3 = q) (kt : ¬ P → AW d M tgt ls st σ K) (kf : P → AW d M q ls st σ K) : AW d M pc ls (.inl (bI P) :: st) σ K :=
  aw_if_eq hd ht hq (fun h => kt (bI_0.mp h)) (fun h => kf (Decidable.not_not.mp (fun z => h (bI_0.mpr z))))
theorem aw_if_neb {P : Prop} [Decidable P] {off : Int} {tgt : Nat} (hd : decode M.2.1 pc = .ok (.ifCond .ne off, 3)) (ht : (pc : Int) + off = (tgt : Int)) (hq : pc + 3 = q) (kt : P → AW d M tgt ls st σ K) (kf : ¬ P → AW d M q ls st σ K) : AW d M pc ls (.inl (bI P) :: st) σ K :=
  aw_if_ne hd ht hq (fun h => kt (Decidable.not_not.mp (fun z => h (bI_0.mpr z)))) (fun h => kf (bI_0.mp h))
theorem aw_tsw (n : Nat) {dflt hi : Int} {offs : Array Int} {len : Nat} {x : Int32} (hd : decode M.2.1 pc = .ok (.tableswitch dflt 0 hi offs, len)) (hn : (offs.size, hi + 1) = (n, (n : Int))) (hnn : (dflt :: offs.toList).all (fun o => decide (0 ≤ o)) = true) (h100 : n ≤ 100)
    (kk : ∀ j, j < n → x = nI j → AW d M ((pc : Int) + offs[j]!).toNat ls st σ K) (kd : (∀ j, j < n → x ≠ nI j) → AW d M ((pc : Int) + dflt).toNat ls st σ K) : AW d M pc ls (.inl x :: st) σ K := by
  obtain ⟨hn1, hn2⟩ := Prod.mk.inj hn
  have hall := List.all_eq_true.mp hnn
  have hx2 := Int32.toInt_lt x
  by_cases h1 : x.toInt < 0 ∨ hi < x.toInt
  · have h0 : 0 ≤ dflt := of_decide_eq_true (hall _ List.mem_cons_self)
    refine aw_tableOut hd h1 ?_ (kd fun j hj hx => ?_)
    · rw [Int.toNat_of_nonneg (by omega)]
    · subst hx
      rw [nI_toInt (by omega)] at h1
      omega
  · have hj : (x.toInt - 0).toNat < n := by omega
    have hsz : (x.toInt - 0).toNat < offs.size := by omega
    have hxx : x = nI (x.toInt - 0).toNat := by
      apply Int32.toInt_inj.mp
      rw [nI_toInt (by omega)]
      omega
    have hget : offs[(x.toInt - 0).toNat]? = some offs[(x.toInt - 0).toNat]! := by
      rw [Array.getElem?_eq_getElem hsz, getElem!_pos offs _ hsz]
    have h0 : 0 ≤ offs[(x.toInt - 0).toNat]! := by
      refine of_decide_eq_true (hall _ (List.mem_cons_of_mem _ ?_))
      rw [getElem!_pos offs _ hsz]
      exact Array.getElem_mem_toList hsz
    refine aw_tableIn hd (fun z => h1 (Or.inl z)) (fun z => h1 (Or.inr z)) hget ?_ (kk _ hj hxx)
    rw [Int.toNat_of_nonneg (by omega)]
end AWb
/-- bit k of a set -/
def hb (s k : Int32) : Bool := decide ((s >>> (k &&& 31)) &&& 1 = 1)
abbrev hs (s k : Int32) : Prop := hb s k = true
theorem hs_iff {s k : Int32} : hs s k ↔ (s >>> (k &&& 31)) &&& 1 = 1 := by
  unfold hs hb
  exact decide_eq_true_iff
/-- a boolean as an int -/
def bB (b : Bool) : Int32 := match b with
  | true => 1
  | false => 0
theorem bB_eq (b : Bool) : bB b = bI (b = true) := by cases b <;> rfl
theorem bB_nar (b : Bool) : narrow .boolean (.int (bB b)) = .int (bB b) := by cases b <;> decide
theorem aw_if_eqB {d : Nat} {M : ax_M} {pc q : Nat} {ls : List (Option AV)} {st : List AV} {σ : SS} {K : ax_K} {b : Bool} {off : Int} {tgt : Nat} (hd : decode M.2.1 pc = .ok (.ifCond .eq off, 3)) (ht : (pc : Int) + off = (tgt : Int)) (hq : pc + 3 = q) (kt : b = false → AW d M tgt ls st σ K) (kf : b = true → AW d M q ls st σ K) : AW d M pc ls (.inl (bB b) :: st) σ K := by
  refine aw_if_eq hd ht hq (fun h => kt ?_) (fun h => kf ?_) <;> cases b <;> first | rfl | exact absurd h (by decide) | exact absurd rfl h
theorem aw_if_neB {d : Nat} {M : ax_M} {pc q : Nat} {ls : List (Option AV)} {st : List AV} {σ : SS} {K : ax_K} {b : Bool} {off : Int} {tgt : Nat} (hd : decode M.2.1 pc = .ok (.ifCond .ne off, 3)) (ht : (pc : Int) + off = (tgt : Int)) (hq : pc + 3 = q) (kt : b = true → AW d M tgt ls st σ K) (kf : b = false → AW d M q ls st σ K) : AW d M pc ls (.inl (bB b) :: st) σ K := by
  refine aw_if_ne hd ht hq (fun h => kt ?_) (fun h => kf ?_) <;> cases b <;> first | rfl | exact absurd h (by decide) | exact absurd rfl h
end
section
/-! ===== words of the specs ===== -/
theorem kk_c {K : ax_K} {r r' : Option Int32} {σ σ' : SS} (h : K r σ) (e1 : r = r') (e2 : σ = σ') : K r' σ' := by subst e1; subst e2; exact h
/-- a place of n -/
abbrev ixn (t : Int32) (n : Nat) : Prop := 0 ≤ t.toInt ∧ t.toInt < (n : Int)
theorem ixn_of {t : Int32} {n : Nat} (h : ixn t n) (hn : n < 2 ^ 31) : ∃ j : Nat, j < n ∧ t = nI j := by
  refine ⟨t.toInt.toNat, by omega, ?_⟩
  apply Int32.toInt_inj.mp
  rw [nI_toInt (by omega)]
  omega
theorem ixn_nI {j n : Nat} (hj : j < 2 ^ 31) : ixn (nI j) n ↔ j < n := by
  unfold ixn
  rw [nI_toInt hj]
  omega
theorem ixn_le {t : Int32} {n : Nat} (hn : n < 2 ^ 31) : ixn t n ↔ (0 ≤ t ∧ t ≤ nI n - 1) := by
  have h1 : (nI n - 1).toInt = (n : Int) - 1 := by
    rw [Int32.toInt_sub, nI_toInt hn]
    have : (1 : Int32).toInt = 1 := by decide
    rw [this]
    apply Int.bmod_eq_of_le <;> omega
  rw [Int32.le_iff_toInt_le, Int32.le_iff_toInt_le, h1, Int32.toInt_zero]
  constructor <;> intro h <;> exact ⟨h.1, by omega⟩
theorem ixn_lt {t : Int32} {n : Nat} (hn : n < 2 ^ 31) : ixn t n ↔ (0 ≤ t ∧ t < nI n) := by
  rw [Int32.le_iff_toInt_le, Int32.lt_iff_toInt_lt, nI_toInt hn, Int32.toInt_zero]
theorem ixn_in {t : Int32} {n N : Nat} (h : ixn t n) (hN : n ≤ N) : vp_in t N := vp_in_iff.mpr ⟨h.1, by omega⟩
/-- how many -/
def cntI (n : Nat) (p : Nat → Prop) [∀ t, Decidable (p t)] : Int32 := lp n (fun t a => if p t then a + 1 else a) 0
/-- which ones, as bits -/
def setI (n : Nat) (p : Nat → Prop) [∀ t, Decidable (p t)] : Int32 := lp n (fun t a => if p t then a ||| (1 <<< (nI t &&& 31)) else a) 0
def sumI (n : Nat) (f : Nat → Int32) : Int32 := lp n (fun t a => a + f t) 0
/-- the less of two -/
def mn (v a : Int32) : Int32 := if a < v then a else v
theorem up_lt (f g : Nat → Int32) (i : Nat) : upd (fun t => if t < i then f t else g t) i (f i) = fun t => if t < i + 1 then f t else g t := by
  funext t
  unfold upd
  by_cases h : t = i
  · subst h; simp
  · by_cases h2 : t < i
    · simp [h, h2, show t < i + 1 by omega]
    · simp [h, h2, show ¬ t < i + 1 by omega]
theorem up_0 (f g : Nat → Int32) : (fun t => if t < 0 then f t else g t) = g := by
  funext t; simp
theorem ix3 (a b : Nat) : 3 * nI a + nI b = nI (3 * a + b) := by
  rw [show (3 : Int32) = nI 3 by decide, pk_mul, nI_add]
theorem ix8 (a b : Nat) : 8 * nI a + nI b = nI (8 * a + b) := by
  rw [show (8 : Int32) = nI 8 by decide, pk_mul, nI_add]
theorem ix8r (a b : Nat) : nI a * 8 + nI b = nI (8 * a + b) := by
  rw [show (8 : Int32) = nI 8 by decide, pk_mul, nI_add, Nat.mul_comm]
theorem ix30 (a : Nat) : 3 * nI a = nI (3 * a) := by
  rw [show (3 : Int32) = nI 3 by decide, pk_mul]
/-- a liquid -/
abbrev lq (l : Int32) : Prop := 0 ≤ l ∧ l ≤ 7
theorem bd_of {l : Int32} {M : Int32} (n : Nat) (hM : M.toInt = n) (h : 0 ≤ l ∧ l ≤ M) : ∃ j : Nat, j < n + 1 ∧ l = nI j := by
  obtain ⟨j, h1, h2⟩ := nI_of2 hM (Int32.not_lt.mpr h.1) h.2
  exact ⟨j, by omega, h2⟩
theorem lq_of {l : Int32} (h : lq l) : ∃ j : Nat, j < 8 ∧ l = nI j := bd_of 7 (by decide) h
/-- bit t -/
abbrev bt (t : Nat) : Int32 := 1 <<< (nI t &&& 31)
abbrev tkOK (v c l : Int32) : Prop := (1 ≤ v ∧ v ≤ 99) ∧ (0 ≤ c ∧ c ≤ 3) ∧ (-9 ≤ l ∧ l ≤ 9)
abbrev cgOK (v c b e r : Int32) : Prop := (1 ≤ v ∧ v ≤ 400) ∧ (0 ≤ c ∧ c ≤ 15) ∧ (0 ≤ b ∧ b ≤ 255) ∧ (0 ≤ e ∧ e ≤ 255) ∧ (0 ≤ r ∧ r ≤ 255)
theorem nI_ne {n k : Nat} (hn : n < 2 ^ 31) (hk : k < 2 ^ 31) : nI n = nI k ↔ n = k := nI_eq hn hk
def ofTankM (σ : SS) (a j : Nat) : Int32 := match j with
  | 0 => σ 29 0 a
  | 1 => σ 30 0 a
  | 2 => σ 31 0 a + 10
  | 3 => σ 32 0 a
  | 4 => σ 33 0 (3 * a)
  | 5 => σ 33 0 (3 * a + 1)
  | 6 => σ 33 0 (3 * a + 2)
  | 7 => σ 35 0 a
  | _ => σ 36 0 a
theorem rp_self2 {σ : SS} {k i k' i' : Nat} {f : Nat → Int32} (h : ¬ k' = k) : rp (rp σ k i f) k' i' (σ k' i') = rp σ k i f := by
  funext a b
  by_cases h2 : a = k' ∧ b = i'
  · obtain ⟨rfl, rfl⟩ := h2; simp [rp, h]
  · simp [rp, h2]
theorem ot4 {a j : Nat} (hj : 4 ≤ j) : 3 * nI a + nI j - 4 = nI (3 * a + j - 4) := by
  rw [ix3, show (4 : Int32) = nI 4 by decide, pk_sub (by omega)]
/-- a last liquid: none, or one -/
abbrev lt9 (v : Int32) : Prop := v = -9 ∨ ∃ j, j < 8 ∧ v = nI j
/-- washes from the last to a liquid -/
def wf (wb : Nat → Int32) (last liq : Int32) : Int32 := if last = -9 then 0 else wb (8 * last + liq).toNatClampNeg
def whyL (bears behind never coat : Int32) (lat : Nat → Int32) (k : Nat) : Int32 := lp k (fun i a => if lat i = -9 then a else (a ||| (if nI i = 0 ∧ hs behind (lat i) then 2 else 0)) ||| (if hs never (lat i) then 4 else 0)) (if hs bears coat then 0 else 1)
def whyM (bears behind never coat : Int32) (lat : Nat → Int32) : Int32 := whyL bears behind never coat lat 3
/-- whether some of n -/
def anyB (n : Nat) (p : Nat → Bool) : Bool := lp n (fun t b => b || p t) false
theorem anyB_0 (p : Nat → Bool) : anyB 0 p = false := rfl
theorem anyB_s (n : Nat) (p : Nat → Bool) : anyB (n + 1) p = (anyB n p || p n) := rfl
theorem anyB_iff {n : Nat} {p : Nat → Bool} : anyB n p = true ↔ ∃ t, t < n ∧ p t = true := by
  induction n with
  | zero => simp [anyB_0]
  | succ n ih =>
    rw [anyB_s, Bool.or_eq_true, ih]
    constructor
    · rintro (⟨t, h1, h2⟩ | h)
      · exact ⟨t, by omega, h2⟩
      · exact ⟨n, by omega, h⟩
    · rintro ⟨t, h1, h2⟩
      rcases Nat.lt_or_ge t n with h | h
      · exact Or.inl ⟨t, h, h2⟩
      · have : t = n := by omega
        subst this
        exact Or.inr h2
theorem bI_false : bI (false = true) = 0 := rfl
abbrev ci (x : Int32) : Nat := x.toNatClampNeg
/-- why a tank does not suit a cargo, in the reference's state -/
def whyS (σ : SS) (t c : Nat) : Int32 := whyM (σ 39 0 c) (σ 40 0 c) (σ 41 0 c) (σ 30 0 t) (fun k => σ 33 0 (3 * t + k))
/-- two cargoes clash, in the reference's state -/
def clB (σ : SS) (c e : Nat) : Bool := hb (σ 42 0 c) (σ 37 0 e) || hb (σ 42 0 e) (σ 37 0 c)
/-- washes for a cargo, in the reference's state -/
def wfS (σ : SS) (t c : Nat) : Int32 := wf (σ 43 0) (σ 33 0 (3 * t)) (σ 37 0 c)
abbrev okT (n cn : Nat) (tr : Nat → Int32) : Prop := ∀ t, t < n → tr t = -9 ∨ vp_in (tr t) cn
theorem vp_mono {x : Int32} {n m : Nat} (h : vp_in x n) (hm : n ≤ m) : vp_in x m := vp_in_iff.mpr ⟨(vp_in_iff.mp h).1, by have := (vp_in_iff.mp h).2; omega⟩
theorem vp_ixn {x : Int32} {n : Nat} : vp_in x n ↔ ixn x n := vp_in_iff
/-- what is left of a cargo, ahead of tank t -/
def lfI (vol tr : Nat → Int32) (a c : Int32) (t : Nat) : Int32 := lp t (fun u r => if tr u = c then r - mn (vol u) r else r) a
theorem lfI_s (vol tr : Nat → Int32) (a c : Int32) (t : Nat) : lfI vol tr a c (t + 1) = if tr t = c then lfI vol tr a c t - mn (vol t) (lfI vol tr a c t) else lfI vol tr a c t := rfl
/-- what is filled into tank t -/
def fl (vol amt tr : Nat → Int32) (cn t : Nat) : Int32 := if ixn (tr t) cn then mn (vol t) (lfI vol tr (amt (ci (tr t))) (tr t) t) else 0
theorem fl_s {vol amt tr : Nat → Int32} {c t : Nat} (hc : c < 2 ^ 30) : fl vol amt tr (c + 1) t = if tr t = nI c then mn (vol t) (lfI vol tr (amt c) (nI c) t) else fl vol amt tr c t := by
  unfold fl
  by_cases h : tr t = nI c
  · rw [if_pos h, h, if_pos ((ixn_nI (by omega)).mpr (by omega)), ci, nI_clamp (by omega)]
  · rw [if_neg h]
    have e : ixn (tr t) (c + 1) ↔ ixn (tr t) c := by
      constructor
      · intro z
        obtain ⟨j, hj, ej⟩ := ixn_of z (by omega)
        rw [ej] at h ⊢
        have hne : j ≠ c := fun q => h (by rw [q])
        exact (ixn_nI (by omega)).mpr (by omega)
      · intro z
        exact ⟨z.1, by have := z.2; omega⟩
    by_cases h2 : ixn (tr t) c
    · rw [if_pos h2, if_pos (e.mpr h2)]
    · rw [if_neg h2, if_neg (fun z => h2 (e.mp z))]
theorem fl_0 {vol amt tr : Nat → Int32} {t : Nat} : fl vol amt tr 0 t = 0 := by
  unfold fl
  rw [if_neg]
  intro h
  have := h.1
  have := h.2
  omega
def ofCargoM (σ : SS) (n cn a j : Nat) : Int32 := match j with
  | 0 => σ 37 0 a
  | 1 => σ 38 0 a
  | 2 => σ 39 0 a
  | 3 => σ 40 0 a
  | 4 => σ 41 0 a
  | 5 => σ 42 0 a
  | 6 => setI n (fun t => whyS σ t a = 0)
  | _ => setI cn (fun e => clB σ a e = true)
theorem shl1 {c : Nat} (h : c ≤ 4) : (1 : Int32) <<< (nI c &&& 31) = nI (2 ^ c) := by
  match c, h with
  | 0, _ => decide
  | 1, _ => decide
  | 2, _ => decide
  | 3, _ => decide
  | 4, _ => decide
  | n + 5, h => exact absurd h (by omega)
theorem two_lt {c : Nat} (h : c ≤ 4) : 2 ^ c < 2 ^ 31 := Nat.pow_lt_pow_right (by decide) (by omega)
theorem ii_1 (x : Int32) : x + Int32.ofInt 1 = x + 1 := rfl
theorem ii_m1 (x : Int32) : x + Int32.ofInt (-1) = x - 1 := by
  rw [show Int32.ofInt (-1) = -1 by decide, ← Int32.sub_eq_add_neg]
theorem vp_lt {x : Int32} {n : Nat} (h : vp_in x n) : ci x < n := Nat.not_le.mp fun q => h (Or.inr q)
/-- rule 1 is broken at t: a cargo that is not of the set -/
def oB (v : Int32) (tr : Nat → Int32) (t : Nat) : Bool := decide (tr t ≠ -9) && !hb v (tr t)
/-- rule 2: it does not suit -/
def uB (σ : SS) (tr : Nat → Int32) (t : Nat) : Bool := decide (tr t ≠ -9) && decide (¬ whyS σ t (ci (tr t)) = 0)
/-- rule 3: a and b ahead of it clash -/
def kB (σ : SS) (tr : Nat → Int32) (a b : Nat) : Bool := hb (σ 32 0 a) (nI b) && (decide (tr a ≠ -9) && (decide (tr b ≠ -9) && clB σ (ci (tr a)) (ci (tr b))))
def kA (σ : SS) (tr : Nat → Int32) (a : Nat) : Bool := anyB a (kB σ tr a)
/-- rule 4: cargo c has too little room -/
def vS (σ : SS) (tr : Nat → Int32) (c n : Nat) : Int32 := lp n (fun t a => if tr t = nI c then a + σ 29 0 t else a) 0
theorem vS_s (σ : SS) (tr : Nat → Int32) (c n : Nat) : vS σ tr c (n + 1) = if tr n = nI c then vS σ tr c n + σ 29 0 n else vS σ tr c n := rfl
def mB (σ : SS) (tr : Nat → Int32) (n : Nat) (v : Int32) (c : Nat) : Bool := hb v (nI c) && decide (vS σ tr c n < σ 38 0 c)
/-- rule 5: a tank would stay empty -/
def eB (tr fi : Nat → Int32) (t : Nat) : Bool := decide (tr t ≠ -9) && decide (fi t = 0)
/-- the cost -/
def coS (σ : SS) (tr : Nat → Int32) (n : Nat) : Int32 := lp n (fun t a => if tr t = -9 then a else a + wfS σ t (ci (tr t))) 0
theorem coS_s (σ : SS) (tr : Nat → Int32) (n : Nat) : coS σ tr (n + 1) = if tr n = -9 then coS σ tr n else coS σ tr n + wfS σ n (ci (tr n)) := rfl
/-- amounts of a set -/
def amS (σ : SS) (v : Int32) (n : Nat) : Int32 := lp n (fun c a => if hb v (nI c) = true then a + σ 38 0 c else a) 0
theorem amS_s (σ : SS) (v : Int32) (n : Nat) : amS σ v (n + 1) = if hb v (nI n) = true then amS σ v n + σ 38 0 n else amS σ v n := rfl
/-- how many tanks have a cargo -/
def usS (tr : Nat → Int32) (n : Nat) : Int32 := lp n (fun t a => if tr t = -9 then a else a + 1) 0
theorem usS_s (tr : Nat → Int32) (n : Nat) : usS tr (n + 1) = if tr n = -9 then usS tr n else usS tr n + 1 := rfl
theorem lp_congr {α : Type} {f g : Nat → α → α} {a : α} : ∀ (n : Nat), (∀ t, t < n → ∀ x, f t x = g t x) → lp n f a = lp n g a
  | 0, _ => rfl
  | n + 1, h => by rw [lp_s, lp_s, lp_congr n (fun t ht => h t (by omega)), h n (by omega)]
theorem anyB_congr {n : Nat} {p q : Nat → Bool} (h : ∀ t, t < n → p t = q t) : anyB n p = anyB n q := lp_congr n (fun t ht x => by rw [h t ht])
theorem sumI_congr {n : Nat} {p q : Nat → Int32} (h : ∀ t, t < n → p t = q t) : sumI n p = sumI n q := lp_congr n (fun t ht x => by rw [h t ht])
/-- the filled row while cargo i is filled into tanks ahead of j -/
def frow (vol amt tr old : Nat → Int32) (n i j : Nat) : Nat → Int32 := fun t => if t < n then (if t < j then fl vol amt tr (i + 1) t else fl vol amt tr i t) else old t
theorem frow_0 (vol amt tr old : Nat → Int32) (n i : Nat) : frow vol amt tr old n i 0 = fun t => if t < n then fl vol amt tr i t else old t := by
  funext t; simp [frow]
theorem frow_n (vol amt tr old : Nat → Int32) (n i : Nat) : frow vol amt tr old n i n = fun t => if t < n then fl vol amt tr (i + 1) t else old t := by
  funext t
  unfold frow
  by_cases h : t < n <;> simp [h]
theorem frow_up {vol amt tr old : Nat → Int32} {n i j : Nat} (h : tr j = nI i) (hj : j < n) (hi : i < 2 ^ 30) : upd (frow vol amt tr old n i j) j (mn (vol j) (lfI vol tr (amt i) (nI i) j)) = frow vol amt tr old n i (j + 1) := by
  funext t
  unfold upd frow
  by_cases e : t = j
  · subst e
    simp [hj, fl_s hi, h]
  · by_cases e2 : t < j
    · simp [e, e2, show t < j + 1 by omega]
    · simp [e, e2, show ¬ t < j + 1 by omega]
theorem frow_ne {vol amt tr old : Nat → Int32} {n i j : Nat} (h : ¬ tr j = nI i) (hi : i < 2 ^ 30) : frow vol amt tr old n i j = frow vol amt tr old n i (j + 1) := by
  funext t
  unfold frow
  by_cases e : t = j
  · subst e
    simp [fl_s hi, h]
  · by_cases e2 : t < j
    · simp [e2, show t < j + 1 by omega]
    · simp [e2, show ¬ t < j + 1 by omega]
/-- LIST of a row -/
def liS (σ : SS) (tr : Nat → Int32) (n cn : Nat) : Int32 := sumI n (fun t => fl (σ 29 0) (σ 38 0) tr cn t * σ 31 0 t)
/-- the first rule that is broken -/
def brS (σ : SS) (tr : Nat → Int32) (n cn : Nat) (v : Int32) : Int32 :=
  if anyB n (oB v tr) = true then 1 else if anyB n (uB σ tr) = true then 2 else if anyB n (kA σ tr) = true then 3 else if anyB cn (mB σ tr n v) = true then 4 else
  if anyB n (eB tr (fl (σ 29 0) (σ 38 0) tr cn)) = true then 5 else if σ 28 0 17 < liS σ tr n cn ∨ σ 28 0 17 < -liS σ tr n cn then 6 else 0
def pc4 (m : Nat) : Nat := m % 2 + (m / 2) % 2 + (m / 4) % 2 + (m / 8) % 2
theorem pc4_s : ∀ m, m < 16 → pc4 m = m % 2 + pc4 (m / 2) := by decide
theorem an1 : ∀ m, m < 16 → nI m &&& 1 = nI (m % 2) := by decide
theorem sr1 : ∀ m, m < 16 → nI m >>> ((1 : Int32) &&& 31) = nI (m / 2) := by decide
/-- a set is better than another -/
def btB (σ : SS) (cn s t : Nat) : Bool := decide (0 < amS σ (nI s) cn - amS σ (nI t) cn) || (decide (amS σ (nI s) cn - amS σ (nI t) cn = 0) && decide (nI (pc4 s) < nI (pc4 t)))
/-- tank t forbids cargo c in tank a -/
def tB (σ : SS) (a : Nat) (c : Int32) (t : Nat) : Bool := hb (σ 32 0 a) (nI t) && (decide (σ 35 0 t ≠ -9) && clB σ (ci (σ 35 0 t)) (ci c))
/-- the three last liquids behind emptying -/
def latUp (L : Nat → Int32) (a : Nat) (l : Int32) : Nat → Int32 := upd (upd (upd L (3 * a + 2) (L (3 * a + 1))) (3 * a + 1) (L (3 * a))) (3 * a) l
theorem eB_fr (n : Nat) (tr g h : Nat → Int32) : anyB n (eB tr (fun t => if t < n then g t else h t)) = anyB n (eB tr g) := anyB_congr (fun t ht => by simp [eB, ht])
theorem fl_congr {vol amt tr tr' : Nat → Int32} {cn t : Nat} (h : ∀ u, u ≤ t → tr u = tr' u) : fl vol amt tr cn t = fl vol amt tr' cn t := by
  unfold fl
  rw [h t (Nat.le_refl t)]
  have e : ∀ a c, lfI vol tr a c t = lfI vol tr' a c t := fun a c => lp_congr t (fun u hu x => by rw [h u (by omega)])
  rw [e]
theorem brS_congr {σ : SS} {tr tr' : Nat → Int32} {n cn : Nat} {v : Int32} (h : ∀ t, t < n → tr t = tr' t) : brS σ tr n cn v = brS σ tr' n cn v := by
  have e1 : anyB n (oB v tr) = anyB n (oB v tr') := anyB_congr (fun t ht => by simp [oB, h t ht])
  have e2 : anyB n (uB σ tr) = anyB n (uB σ tr') := anyB_congr (fun t ht => by simp [uB, h t ht])
  have e3 : anyB n (kA σ tr) = anyB n (kA σ tr') := anyB_congr (fun t ht => anyB_congr (fun u hu => by simp [kB, h t ht, h u (by omega)]))
  have e4 : anyB cn (mB σ tr n v) = anyB cn (mB σ tr' n v) := anyB_congr (fun c _ => by
    have : vS σ tr c n = vS σ tr' c n := lp_congr n (fun t ht x => by rw [h t ht])
    simp [mB, this])
  have e5 : anyB n (eB tr (fl (σ 29 0) (σ 38 0) tr cn)) = anyB n (eB tr' (fl (σ 29 0) (σ 38 0) tr' cn)) := anyB_congr (fun t ht => by
    rw [eB, eB, h t ht, fl_congr (fun u hu => h u (by omega))])
  have e6 : liS σ tr n cn = liS σ tr' n cn := sumI_congr (fun t ht => by rw [fl_congr (fun u hu => h u (by omega))])
  unfold brS
  rw [e1, e2, e3, e4, e5, e6]
theorem coS_congr {σ : SS} {tr tr' : Nat → Int32} {n : Nat} (h : ∀ t, t < n → tr t = tr' t) : coS σ tr n = coS σ tr' n := lp_congr n (fun t ht x => by rw [h t ht])
theorem usS_congr {tr tr' : Nat → Int32} {n : Nat} (h : ∀ t, t < n → tr t = tr' t) : usS tr n = usS tr' n := lp_congr n (fun t ht x => by rw [h t ht])
/-- the reference's state with its scratch rows -/
def mS (σ : SS) (x y z : Int32) (f g b c : Nat → Int32) : SS := rp (rp (rp (rp (rp σ 28 0 (upd (upd (upd (σ 28 0) 20 x) 21 y) 22 z)) 44 0 f) 45 0 g) 46 0 b) 47 0 c
theorem mS_self (σ : SS) : mS σ (σ 28 0 20) (σ 28 0 21) (σ 28 0 22) (σ 44 0) (σ 45 0) (σ 46 0) (σ 47 0) = σ := by
  funext k i
  unfold mS rp
  by_cases h28 : k = 28 ∧ i = 0
  · obtain ⟨rfl, rfl⟩ := h28
    funext j
    simp only [Nat.reduceEqDiff, false_and, if_false, and_self, if_true, upd]
    by_cases h1 : j = 22 <;> by_cases h2 : j = 21 <;> by_cases h3 : j = 20 <;> simp [h1, h2, h3]
  · by_cases h4 : k = 44 ∧ i = 0
    · obtain ⟨rfl, rfl⟩ := h4; simp
    · by_cases h5 : k = 45 ∧ i = 0
      · obtain ⟨rfl, rfl⟩ := h5; simp
      · by_cases h6 : k = 46 ∧ i = 0
        · obtain ⟨rfl, rfl⟩ := h6; simp
        · by_cases h7 : k = 47 ∧ i = 0
          · obtain ⟨rfl, rfl⟩ := h7; simp
          · simp [h28, h4, h5, h6, h7]
theorem mS_44 (σ : SS) (x y z : Int32) (f g b c f' : Nat → Int32) : rp (mS σ x y z f g b c) 44 0 f' = mS σ x y z f' g b c := by
  funext k i; unfold mS rp
  by_cases h : k = 44 ∧ i = 0 <;> simp [h]
theorem mS_45 (σ : SS) (x y z : Int32) (f g b c f' : Nat → Int32) : rp (mS σ x y z f g b c) 45 0 f' = mS σ x y z f f' b c := by
  funext k i; unfold mS rp
  by_cases h : k = 45 ∧ i = 0 <;> simp [h]
theorem mS_46 (σ : SS) (x y z : Int32) (f g b c f' : Nat → Int32) : rp (mS σ x y z f g b c) 46 0 f' = mS σ x y z f g f' c := by
  funext k i; unfold mS rp
  by_cases h : k = 46 ∧ i = 0 <;> simp [h]
theorem mS_47 (σ : SS) (x y z : Int32) (f g b c f' : Nat → Int32) : rp (mS σ x y z f g b c) 47 0 f' = mS σ x y z f g b f' := by
  funext k i; unfold mS rp
  by_cases h : k = 47 ∧ i = 0 <;> simp [h]
theorem mS_28 (σ : SS) (x y z x' y' z' : Int32) (f g b c a : Nat → Int32) (ha : a = upd (upd (upd (σ 28 0) 20 x') 21 y') 22 z') : rp (mS σ x y z f g b c) 28 0 a = mS σ x' y' z' f g b c := by
  subst ha
  funext k i; unfold mS rp
  by_cases h : k = 28 ∧ i = 0 <;> simp [h]
theorem mS_r28 (σ : SS) (x y z : Int32) (f g b c : Nat → Int32) : (mS σ x y z f g b c) 28 0 = upd (upd (upd (σ 28 0) 20 x) 21 y) 22 z := rfl
theorem mS_r44 (σ : SS) (x y z : Int32) (f g b c : Nat → Int32) : (mS σ x y z f g b c) 44 0 = f := rfl
theorem mS_r45 (σ : SS) (x y z : Int32) (f g b c : Nat → Int32) : (mS σ x y z f g b c) 45 0 = g := rfl
theorem mS_r46 (σ : SS) (x y z : Int32) (f g b c : Nat → Int32) : (mS σ x y z f g b c) 46 0 = b := rfl
theorem mS_r47 (σ : SS) (x y z : Int32) (f g b c : Nat → Int32) : (mS σ x y z f g b c) 47 0 = c := rfl
theorem mS_rk {σ : SS} {x y z : Int32} {f g b c : Nat → Int32} {k i : Nat} (h : k ≠ 28 ∧ k ≠ 44 ∧ k ≠ 45 ∧ k ≠ 46 ∧ k ≠ 47) : (mS σ x y z f g b c) k i = σ k i := by
  unfold mS rp; simp [h]
theorem mS_r28j {σ : SS} {x y z : Int32} {f g b c : Nat → Int32} {j : Nat} (h : j ≠ 20 ∧ j ≠ 21 ∧ j ≠ 22) : (mS σ x y z f g b c) 28 0 j = σ 28 0 j := by
  rw [mS_r28]; simp [upd, h]
theorem brS_mS (σ : SS) (x y z : Int32) (f g b c tr : Nat → Int32) (n cn : Nat) (v : Int32) : brS (mS σ x y z f g b c) tr n cn v = brS σ tr n cn v := rfl
theorem coS_mS (σ : SS) (x y z : Int32) (f g b c tr : Nat → Int32) (n : Nat) : coS (mS σ x y z f g b c) tr n = coS σ tr n := rfl
theorem brS_44 (σ : SS) (f tr : Nat → Int32) (n cn : Nat) (v : Int32) : brS (rp σ 44 0 f) tr n cn v = brS σ tr n cn v := rfl
/-- the digit of tank t in row r -/
def dg (r m n t : Nat) : Nat := (r / m ^ (n - 1 - t)) % m
/-- keep a right row if it is better: how many, cost, used, the row -/
abbrev SA : Type := Int32 × Int32 × Int32 × (Nat → Int32)
def bet (co us : Int32) (a : SA) : Bool := decide (a.1 + 1 = 1) || (decide (co < a.2.1) || (decide (co = a.2.1) && decide (us < a.2.2.1)))
def kpS (σ : SS) (n : Nat) (tr : Nat → Int32) (a : SA) : SA := if bet (coS σ tr n) (usS tr n) a = true then (a.1 + 1, coS σ tr n, usS tr n, fun t => if t < n then tr t else a.2.2.2 t) else (a.1 + 1, a.2.1, a.2.2.1, a.2.2.2)
def stS (σ : SS) (n cn : Nat) (v : Int32) (tr : Nat → Int32) (a : SA) : SA := if brS σ tr n cn v = 0 then kpS σ n tr a else a
/-- the cargoes of a set, below i -/
def chs (s i : Nat) : List Nat := (List.range i).filter (fun c => hb (nI s) (nI c))
def chr (L : List Nat) (old : Nat → Int32) : Nat → Int32 := fun j => ((L[j]?).map nI).getD (old j)
theorem chs_s (s i : Nat) : chs s (i + 1) = if hb (nI s) (nI i) = true then chs s i ++ [i] else chs s i := by
  unfold chs
  rw [List.range_succ, List.filter_append]
  by_cases h : hb (nI s) (nI i) = true <;> simp [h]
theorem chr_up (L : List Nat) (old : Nat → Int32) (i : Nat) : upd (chr L old) L.length (nI i) = chr (L ++ [i]) old := by
  funext j
  unfold upd chr
  by_cases h : j = L.length
  · subst h; simp
  · rw [if_neg h]
    by_cases h2 : j < L.length
    · rw [List.getElem?_append_left h2]
    · rw [List.getElem?_eq_none (by omega), List.getElem?_eq_none (by simp; omega)]
theorem chs_len (s i : Nat) : (chs s i).length ≤ i := by
  unfold chs
  exact Nat.le_trans (List.length_filter_le _ _) (by simp)
/-- the plan of row r for set s: what tank t has -/
def rwS (s cn n r : Nat) (t : Nat) : Int32 := ((chs s cn)[dg r ((chs s cn).length + 1) n t]?).elim (-9) nI
def fbS (σ : SS) (n cn s : Nat) (k : Nat) (a : SA) : SA := lp k (fun r a => stS σ n cn (nI s) (rwS s cn n r) a) a
/-- the tried row while it is laid from the last tank on -/
def lrow (ch old : Nat → Int32) (r m n i : Nat) : Nat → Int32 := fun t => if n - i ≤ t ∧ t < n then ch (dg r m n t) else old t
theorem lrow_0 (ch old : Nat → Int32) (r m n : Nat) : lrow ch old r m n 0 = old := by
  funext t
  unfold lrow
  rw [if_neg (by omega)]
theorem lrow_n (ch old : Nat → Int32) (r m n : Nat) : lrow ch old r m n n = fun t => if t < n then ch (dg r m n t) else old t := by
  funext t
  unfold lrow
  by_cases h : t < n
  · rw [if_pos ⟨by omega, h⟩, if_pos h]
  · rw [if_neg (by omega), if_neg h]
theorem lrow_s {ch old : Nat → Int32} {r m n i : Nat} (hi : i < n) : upd (lrow ch old r m n i) (n - i - 1) (ch (r / m ^ i % m)) = lrow ch old r m n (i + 1) := by
  funext t
  unfold upd lrow
  by_cases h : t = n - i - 1
  · rw [if_pos h, if_pos (by omega)]
    unfold dg
    rw [show n - 1 - t = i by omega]
  · rw [if_neg h]
    by_cases h2 : n - i ≤ t ∧ t < n
    · rw [if_pos h2, if_pos (by omega)]
    · rw [if_neg h2, if_neg (by omega)]
theorem pow_le6 {m n : Nat} (hm : m ≤ 5) (hn : n ≤ 6) : m ^ n ≤ 15625 := by
  have h1 : m ^ n ≤ 5 ^ n := Nat.pow_le_pow_left hm n
  have h2 : (5 : Nat) ^ n ≤ 5 ^ 6 := Nat.pow_le_pow_right (by decide) hn
  have h3 : (5 : Nat) ^ 6 = 15625 := by decide
  omega
theorem dg_lt {r m n t : Nat} (hm : 0 < m) : dg r m n t < m := Nat.mod_lt _ hm
/-- whether a row would be kept -/
def kpB (σ : SS) (n : Nat) : Bool := decide (σ 28 0 20 = 1) || (decide (coS σ (σ 44 0) n < σ 28 0 21) || (decide (coS σ (σ 44 0) n = σ 28 0 21) && decide (usS (σ 44 0) n < σ 28 0 22)))
theorem fbS_s (σ : SS) (n cn s k : Nat) (a : SA) : fbS σ n cn s (k + 1) a = stS σ n cn (nI s) (rwS s cn n k) (fbS σ n cn s k a) := rfl
theorem chs_lt {s cn c : Nat} (h : c ∈ chs s cn) : c < cn := List.mem_range.mp (List.mem_filter.mp h).1
theorem rw_lay (s cn n r : Nat) (old f : Nat → Int32) : (fun t => if t < n then (upd (chr (chs s cn) old) (chs s cn).length (-9)) (dg r ((chs s cn).length + 1) n t) else f t) = fun t => if t < n then rwS s cn n r t else f t := by
  funext t
  by_cases ht : t < n
  · rw [if_pos ht, if_pos ht]
    unfold rwS upd chr
    by_cases h : dg r ((chs s cn).length + 1) n t = (chs s cn).length
    · rw [if_pos h, List.getElem?_eq_none (by omega)]; rfl
    · have hl : dg r ((chs s cn).length + 1) n t < (chs s cn).length := by
        have := @dg_lt r ((chs s cn).length + 1) n t (by omega)
        omega
      rw [if_neg h, List.getElem?_eq_getElem hl]; rfl
  · rw [if_neg ht, if_neg ht]
theorem okT_rw {s cn n r : Nat} {f : Nat → Int32} (hc : cn < 2 ^ 30) : okT n cn (fun t => if t < n then rwS s cn n r t else f t) := by
  intro t ht
  simp only [if_pos ht]
  unfold rwS
  cases h : (chs s cn)[dg r ((chs s cn).length + 1) n t]? with
  | none => exact Or.inl rfl
  | some c => exact Or.inr (vp_in_nI (chs_lt (List.mem_of_getElem? h)) (by omega))
theorem mS_start (σ : SS) (ch : Nat → Int32) : rp (rp σ 47 0 ch) 28 0 (upd ((rp σ 47 0 ch) 28 0) 20 0) = mS σ 0 (σ 28 0 21) (σ 28 0 22) (σ 44 0) (σ 45 0) (σ 46 0) ch := by
  funext k i
  unfold mS rp
  by_cases h28 : k = 28 ∧ i = 0
  · obtain ⟨rfl, rfl⟩ := h28
    funext j
    simp only [Nat.reduceEqDiff, false_and, if_false, and_self, if_true, upd]
    by_cases h1 : j = 22 <;> by_cases h2 : j = 21 <;> by_cases h3 : j = 20 <;> simp [h1, h2, h3]
  · by_cases h4 : k = 44 ∧ i = 0
    · obtain ⟨rfl, rfl⟩ := h4; simp
    · by_cases h5 : k = 45 ∧ i = 0
      · obtain ⟨rfl, rfl⟩ := h5; simp
      · by_cases h6 : k = 46 ∧ i = 0
        · obtain ⟨rfl, rfl⟩ := h6; simp
        · by_cases h7 : k = 47 ∧ i = 0
          · obtain ⟨rfl, rfl⟩ := h7; simp
          · simp [h28, h4, h5, h6, h7]
theorem mS_right (σ : SS) (x y z : Int32) (f g b c : Nat → Int32) : rp (mS σ x y z f g b c) 28 0 (upd ((mS σ x y z f g b c) 28 0) 20 ((mS σ x y z f g b c) 28 0 20 + 1)) = mS σ (x + 1) y z f g b c := by
  refine mS_28 σ x y z (x + 1) y z f g b c _ ?_
  rw [mS_r28]
  funext j
  by_cases h1 : j = 22 <;> by_cases h2 : j = 21 <;> by_cases h3 : j = 20 <;> simp [upd, h1, h2, h3]
theorem kpB_mS (σ : SS) (x y z : Int32) (f g b c : Nat → Int32) (n : Nat) : kpB (mS σ (x + 1) y z f g b c) n = bet (coS σ f n) (usS f n) (x, y, z, b) := rfl
theorem mS_keep (σ : SS) (x y z co us : Int32) (f g b c b' : Nat → Int32) : rp (rp (mS σ x y z f g b c) 28 0 (upd (upd ((mS σ x y z f g b c) 28 0) 21 co) 22 us)) 46 0 b' = mS σ x co us f g b' c := by
  rw [mS_28 σ x y z x co us f g b c _ ?_, mS_46]
  rw [mS_r28]
  funext j
  by_cases h1 : j = 22 <;> by_cases h2 : j = 21 <;> by_cases h3 : j = 20 <;> simp [upd, h1, h2, h3]
theorem stS_f {σ : SS} {n cn : Nat} {v : Int32} {tr tr' : Nat → Int32} {x y z : Int32} {b : Nat → Int32} (h : ∀ t, t < n → tr' t = tr t) (h0 : brS σ tr n cn v = 0) (hk : bet (coS σ tr' n) (usS tr' n) (x, y, z, b) = false) : stS σ n cn v tr (x, y, z, b) = (x + 1, y, z, b) := by
  rw [coS_congr h, usS_congr h] at hk
  rw [stS, if_pos h0, kpS, if_neg (by rw [hk]; decide)]
theorem stS_t {σ : SS} {n cn : Nat} {v : Int32} {tr tr' : Nat → Int32} {x y z : Int32} {b : Nat → Int32} (h : ∀ t, t < n → tr' t = tr t) (h0 : brS σ tr n cn v = 0) (hk : bet (coS σ tr' n) (usS tr' n) (x, y, z, b) = true) : stS σ n cn v tr (x, y, z, b) = (x + 1, coS σ tr' n, usS tr' n, fun t => if t < n then tr' t else b t) := by
  rw [coS_congr h, usS_congr h] at hk ⊢
  rw [stS, if_pos h0, kpS, if_pos hk]
  have e : (fun t => if t < n then tr t else b t) = fun t => if t < n then tr' t else b t := by
    funext t
    by_cases ht : t < n
    · simp [ht, h t ht]
    · simp [ht]
  simp only [e]
end
section
set_option maxRecDepth 4000 in
theorem sX4_within {d : Nat} {σ : SS} {K : ax_K} {v a b : Int32}  (hK : K (some (bI (a ≤ v ∧ v ≤ b))) σ) : AW d mX4_within 0 (ax_en mX4_within [.inl v, .inl a, .inl b]) [] σ K := by
  show AW _ mX4_within 0 [_, _, _] _ _ _
  refine aw_iload_n dX4_within_0 rfl rfl ?_
  refine aw_iload_n dX4_within_1 rfl rfl ?_
  refine aw_icmp_lt (tgt := 14) dX4_within_2 rfl rfl (fun c2 => ?_) (fun c2 => ?_)
  · skip
    refine aw_iconst 0 dX4_within_14 rfl (by decide) ?_
    refine aw_ret dX4_within_15 rfl (by decide) ?_
    first | exact kb_t hK ⟨Int32.not_lt.mp (by assumption), Int32.not_lt.mp (by assumption)⟩ | exact kb_f hK (fun z => absurd (by assumption) (Int32.not_lt.mpr z.1)) | exact kb_f hK (fun z => absurd (by assumption) (Int32.not_lt.mpr z.2))
  · skip
    refine aw_iload_n dX4_within_5 rfl rfl ?_
    refine aw_iload_n dX4_within_6 rfl rfl ?_
    refine aw_icmp_gt (tgt := 14) dX4_within_7 rfl rfl (fun c7 => ?_) (fun c7 => ?_)
    · skip
      refine aw_iconst 0 dX4_within_14 rfl (by decide) ?_
      refine aw_ret dX4_within_15 rfl (by decide) ?_
      first | exact kb_t hK ⟨Int32.not_lt.mp (by assumption), Int32.not_lt.mp (by assumption)⟩ | exact kb_f hK (fun z => absurd (by assumption) (Int32.not_lt.mpr z.1)) | exact kb_f hK (fun z => absurd (by assumption) (Int32.not_lt.mpr z.2))
    · skip
      refine aw_iconst 1 dX4_within_10 rfl (by decide) ?_
      refine aw_goto (q := 15) dX4_within_11 rfl ?_
      refine aw_ret dX4_within_15 rfl (by decide) ?_
      first | exact kb_t hK ⟨Int32.not_lt.mp (by assumption), Int32.not_lt.mp (by assumption)⟩ | exact kb_f hK (fun z => absurd (by assumption) (Int32.not_lt.mpr z.1)) | exact kb_f hK (fun z => absurd (by assumption) (Int32.not_lt.mpr z.2))
set_option maxRecDepth 4000 in
theorem sX4_isLiquid {d : Nat} {σ : SS} {K : ax_K} {v : Int32}  (hK : K (some (bI (0 ≤ v ∧ v ≤ 7))) σ) : AW (d + 1) mX4_isLiquid 0 (ax_en mX4_isLiquid [.inl v]) [] σ K := by
  show AW _ mX4_isLiquid 0 [_] _ _ _
  refine aw_iload_n dX4_isLiquid_0 rfl rfl ?_
  refine aw_iconst 0 dX4_isLiquid_1 rfl (by decide) ?_
  refine aw_bipush 7 dX4_isLiquid_2 rfl (by decide) ?_
  refine aw_S3 (M' := mX4_within) dX4_isLiquid_4 rfl lkX4_71 gX4_within (Nat.le_of_ble_eq_true rfl) (sX4_within ?_)
  show AW _ mX4_isLiquid 7 _ (_ :: _) _ _
  refine aw_ret dX4_isLiquid_7 rfl (by unfold bI; split <;> decide) ?_
  exact hK
set_option maxRecDepth 4000 in
theorem sX4_isSet {d : Nat} {σ : SS} {K : ax_K} {v : Int32}  (hK : K (some (bI (0 ≤ v ∧ v ≤ 255))) σ) : AW (d + 1) mX4_isSet 0 (ax_en mX4_isSet [.inl v]) [] σ K := by
  show AW _ mX4_isSet 0 [_] _ _ _
  refine aw_iload_n dX4_isSet_0 rfl rfl ?_
  refine aw_iconst 0 dX4_isSet_1 rfl (by decide) ?_
  refine aw_sipush 255 dX4_isSet_2 rfl (by decide) ?_
  refine aw_S3 (M' := mX4_within) dX4_isSet_5 rfl lkX4_71 gX4_within (Nat.le_of_ble_eq_true rfl) (sX4_within ?_)
  show AW _ mX4_isSet 8 _ (_ :: _) _ _
  refine aw_ret dX4_isSet_8 rfl (by unfold bI; split <;> decide) ?_
  exact hK
set_option maxRecDepth 4000 in
theorem sX4_has {d : Nat} {σ : SS} {K : ax_K} {v k : Int32}  (hK : K (some (bB (hb v k))) σ) : AW d mX4_has 0 (ax_en mX4_has [.inl v, .inl k]) [] σ K := by
  show AW _ mX4_has 0 [_, _] _ _ _
  refine aw_iload_n dX4_has_0 rfl rfl ?_
  refine aw_iload_n dX4_has_1 rfl rfl ?_
  refine aw_ishr dX4_has_2 rfl ?_
  refine aw_iconst 1 dX4_has_3 rfl (by decide) ?_
  refine aw_iand dX4_has_4 rfl ?_
  refine aw_iconst 1 dX4_has_5 rfl (by decide) ?_
  refine aw_icmp_ne (tgt := 13) dX4_has_6 rfl rfl (fun c6 => ?_) (fun c6 => ?_)
  · skip
    refine aw_iconst 0 dX4_has_13 rfl (by decide) ?_
    refine aw_ret dX4_has_14 rfl (by decide) ?_
    rw [bB_eq] at hK
    first | exact kb_t hK (hs_iff.mpr (by assumption)) | exact kb_f hK (fun z => absurd (hs_iff.mp z) (by assumption))
  · skip
    refine aw_iconst 1 dX4_has_9 rfl (by decide) ?_
    refine aw_goto (q := 14) dX4_has_10 rfl ?_
    refine aw_ret dX4_has_14 rfl (by decide) ?_
    rw [bB_eq] at hK
    first | exact kb_t hK (hs_iff.mpr (by assumption)) | exact kb_f hK (fun z => absurd (hs_iff.mp z) (by assumption))
set_option maxRecDepth 4000 in
theorem sX4_isTank {d : Nat} {σ : SS} {K : ax_K} {t : Int32} {n : Nat} (hn : n ≤ 6) (h0 : σ 28 0 0 = nI n) (hK : K (some (bI (ixn t n))) σ) : AW (d + 1) mX4_isTank 0 (ax_en mX4_isTank [.inr (28, 0), .inl t]) [] σ K := by
  show AW _ mX4_isTank 0 [_, _] _ _ _
  refine aw_iload_n dX4_isTank_0 rfl rfl ?_
  refine aw_iconst 0 dX4_isTank_1 rfl (by decide) ?_
  refine aw_aload_n dX4_isTank_2 rfl rfl ?_
  refine aw_getI dX4_isTank_3 rfl rfl rfl flX4_75 ?_
  refine aw_iconst 1 dX4_isTank_6 rfl (by decide) ?_
  refine aw_isub dX4_isTank_7 rfl ?_
  refine aw_S3 (M' := mX4_within) dX4_isTank_8 rfl lkX4_71 gX4_within (Nat.le_of_ble_eq_true rfl) (sX4_within ?_)
  show AW _ mX4_isTank 11 _ (_ :: _) _ _
  refine aw_ret dX4_isTank_11 rfl (by unfold bI; split <;> decide) ?_
  rw [h0]
  exact kk_c hK (by rw [bI_c (ixn_le (by omega))]) rfl
set_option maxRecDepth 4000 in
theorem sX4_isCargo {d : Nat} {σ : SS} {K : ax_K} {t : Int32} {cn : Nat} (hc : cn ≤ 4) (h9 : σ 28 0 9 = nI cn) (hK : K (some (bI (ixn t cn))) σ) : AW (d + 1) mX4_isCargo 0 (ax_en mX4_isCargo [.inr (28, 0), .inl t]) [] σ K := by
  show AW _ mX4_isCargo 0 [_, _] _ _ _
  refine aw_iload_n dX4_isCargo_0 rfl rfl ?_
  refine aw_iconst 0 dX4_isCargo_1 rfl (by decide) ?_
  refine aw_aload_n dX4_isCargo_2 rfl rfl ?_
  refine aw_getI dX4_isCargo_3 rfl rfl rfl flX4_92 ?_
  refine aw_iconst 1 dX4_isCargo_6 rfl (by decide) ?_
  refine aw_isub dX4_isCargo_7 rfl ?_
  refine aw_S3 (M' := mX4_within) dX4_isCargo_8 rfl lkX4_71 gX4_within (Nat.le_of_ble_eq_true rfl) (sX4_within ?_)
  show AW _ mX4_isCargo 11 _ (_ :: _) _ _
  refine aw_ret dX4_isCargo_11 rfl (by unfold bI; split <;> decide) ?_
  rw [h9]
  exact kk_c hK (by rw [bI_c (ixn_le (by omega))]) rfl
set_option maxRecDepth 4000 in
theorem sX4_areTwo {d : Nat} {σ : SS} {K : ax_K} {i j : Int32} {n : Nat} (hn : n ≤ 6) (h0 : σ 28 0 0 = nI n) (hK : K (some (bI (ixn i n ∧ ixn j n ∧ i ≠ j))) σ) : AW (d + 2) mX4_areTwo 0 (ax_en mX4_areTwo [.inr (28, 0), .inl i, .inl j]) [] σ K := by
  show AW _ mX4_areTwo 0 [_, _, _] _ _ _
  refine aw_aload_n dX4_areTwo_0 rfl rfl ?_
  refine aw_iload_n dX4_areTwo_1 rfl rfl ?_
  refine aw_V1 (M' := mX4_isTank) dX4_areTwo_2 rfl lkX4_78 gX4_isTank rfl rfl (Nat.le_of_ble_eq_true rfl) (sX4_isTank hn h0 ?_)
  show AW _ mX4_areTwo 5 _ (_ :: _) _ _
  refine aw_if_eqb (tgt := 25) dX4_areTwo_5 rfl rfl (fun c5 => ?_) (fun c5 => ?_)
  · skip
    refine aw_iconst 0 dX4_areTwo_25 rfl (by decide) ?_
    refine aw_ret dX4_areTwo_26 rfl (by decide) ?_
    first | exact kb_t hK ⟨by assumption, by assumption, by assumption⟩ | exact kb_f hK (fun z => by simp_all)
  · skip
    refine aw_aload_n dX4_areTwo_8 rfl rfl ?_
    refine aw_iload_n dX4_areTwo_9 rfl rfl ?_
    refine aw_V1 (M' := mX4_isTank) dX4_areTwo_10 rfl lkX4_78 gX4_isTank rfl rfl (Nat.le_of_ble_eq_true rfl) (sX4_isTank hn h0 ?_)
    show AW _ mX4_areTwo 13 _ (_ :: _) _ _
    refine aw_if_eqb (tgt := 25) dX4_areTwo_13 rfl rfl (fun c13 => ?_) (fun c13 => ?_)
    · skip
      refine aw_iconst 0 dX4_areTwo_25 rfl (by decide) ?_
      refine aw_ret dX4_areTwo_26 rfl (by decide) ?_
      first | exact kb_t hK ⟨by assumption, by assumption, by assumption⟩ | exact kb_f hK (fun z => by simp_all)
    · skip
      refine aw_iload_n dX4_areTwo_16 rfl rfl ?_
      refine aw_iload_n dX4_areTwo_17 rfl rfl ?_
      refine aw_icmp_eq (tgt := 25) dX4_areTwo_18 rfl rfl (fun c18 => ?_) (fun c18 => ?_)
      · skip
        refine aw_iconst 0 dX4_areTwo_25 rfl (by decide) ?_
        refine aw_ret dX4_areTwo_26 rfl (by decide) ?_
        first | exact kb_t hK ⟨by assumption, by assumption, by assumption⟩ | exact kb_f hK (fun z => by simp_all)
      · skip
        refine aw_iconst 1 dX4_areTwo_21 rfl (by decide) ?_
        refine aw_goto (q := 26) dX4_areTwo_22 rfl ?_
        refine aw_ret dX4_areTwo_26 rfl (by decide) ?_
        first | exact kb_t hK ⟨by assumption, by assumption, by assumption⟩ | exact kb_f hK (fun z => by simp_all)
set_option maxRecDepth 4000 in
theorem sX4_holders {d : Nat} {σ : SS} {K : ax_K} {c : Int32} {n : Nat} (hn : n ≤ 6) (h0 : σ 28 0 0 = nI n) (hK : K (some (cntI n (fun t => σ 35 0 t = c))) σ) : AW d mX4_holders 0 (ax_en mX4_holders [.inr (28, 0), .inl c]) [] σ K := by
  show AW _ mX4_holders 0 [_, _, _, _] _ _ _
  refine aw_iconst 0 dX4_holders_0 rfl (by decide) ?_
  refine aw_istore_n dX4_holders_1 rfl (by decide) ?_
  show AW _ mX4_holders 2 [_, _, _, _] _ _ _
  refine aw_iconst 0 dX4_holders_2 rfl (by decide) ?_
  refine aw_istore_n dX4_holders_3 rfl (by decide) ?_
  show AW _ mX4_holders 4 [_, _, _, _] _ _ _
  refine AW.conv (ax_loop (P := fun i => AW d mX4_holders 4 [some (.inr (28, 0)), some (.inl c), some (.inl (cntI i (fun t => σ 35 0 t = c))), some (.inl (nI i))] [] σ K) n ?_ ?_ 0 (Nat.zero_le _)) (by first | (simp only [nI_0]; done) | (simp only [nI_0]; rfl)) rfl rfl
  · try dsimp only
    refine aw_iload_n dX4_holders_4 rfl rfl ?_
    refine aw_aload_n dX4_holders_5 rfl rfl ?_
    refine aw_getI dX4_holders_6 rfl rfl rfl flX4_75 ?_
    refine aw_icmp_ge (tgt := 36) dX4_holders_9 rfl rfl (fun _ => ?_) (fun z => absurd (by rw [h0]; exact Int32.le_refl _) z)
    refine aw_iload_n dX4_holders_36 rfl rfl ?_
    refine aw_ret dX4_holders_37 rfl rfl ?_
    exact hK
  · intro i hi_4 nx_4
    try dsimp only at nx_4 ⊢
    refine aw_iload_n dX4_holders_4 rfl rfl ?_
    refine aw_aload_n dX4_holders_5 rfl rfl ?_
    refine aw_getI dX4_holders_6 rfl rfl rfl flX4_75 ?_
    refine aw_icmp_ge (tgt := 36) dX4_holders_9 rfl rfl (fun z => absurd z (by rw [h0]; exact nI_ge hi_4 (by omega))) (fun _ => ?_)
    refine aw_iload_n dX4_holders_12 rfl rfl ?_
    refine aw_aload_n dX4_holders_13 rfl rfl ?_
    refine aw_getR dX4_holders_14 rfl rfl rfl (by decide) flX4_28 ?_
    refine aw_iload_n dX4_holders_17 rfl rfl ?_
    refine aw_iald dX4_holders_18 rfl rfl (by first | exact vp_in_nI (by omega) (by omega) | decide) ?_
    refine aw_iload_n dX4_holders_19 rfl rfl ?_
    refine aw_icmp_ne (tgt := 27) dX4_holders_20 rfl rfl (fun c20 => ?_) (fun c20 => ?_)
    · skip
      refine aw_iconst 0 dX4_holders_27 rfl (by decide) ?_
      refine aw_iadd dX4_holders_28 rfl ?_
      refine aw_istore_n dX4_holders_29 rfl (by decide) ?_
      show AW _ mX4_holders 30 [_, _, _, _] _ _ _
      refine aw_iinc dX4_holders_30 rfl rfl (ii_1 _) (by decide) ?_
      show AW _ mX4_holders 33 [_, _, _, _] _ _ _
      refine aw_goto (q := 4) dX4_holders_33 rfl ?_
      refine AW.conv nx_4 ?_ rfl rfl
      simp only [nI_succ, cntI, lp_s]
      rw [nI_clamp (by omega)] at c20
      simp [c20]
    · skip
      refine aw_iconst 1 dX4_holders_23 rfl (by decide) ?_
      refine aw_goto (q := 28) dX4_holders_24 rfl ?_
      refine aw_iadd dX4_holders_28 rfl ?_
      refine aw_istore_n dX4_holders_29 rfl (by decide) ?_
      show AW _ mX4_holders 30 [_, _, _, _] _ _ _
      refine aw_iinc dX4_holders_30 rfl rfl (ii_1 _) (by decide) ?_
      show AW _ mX4_holders 33 [_, _, _, _] _ _ _
      refine aw_goto (q := 4) dX4_holders_33 rfl ?_
      refine AW.conv nx_4 ?_ rfl rfl
      simp only [nI_succ, cntI, lp_s]
      rw [nI_clamp (by omega)] at c20
      simp [c20]
end
section
set_option maxRecDepth 4000 in
theorem sX4_tank {d : Nat} {σ : SS} {K : ax_K} {v c l : Int32} {n : Nat} (hn : n ≤ 6) (h0 : σ 28 0 0 = nI n) (k1 : ¬ tkOK v c l → K (some (-2)) σ) (k2 : tkOK v c l → n = 6 → K (some (-4)) σ) (k3 : tkOK v c l → n < 6 → K (some (nI n)) (rp (rp (rp (rp σ 29 0 (upd (σ 29 0) n v)) 30 0 (upd (σ 30 0) n c)) 31 0 (upd (σ 31 0) n l)) 28 0 (upd (σ 28 0) 0 (nI (n + 1))))) : AW (d + 1) mX4_tank 0 (ax_en mX4_tank [.inr (28, 0), .inl v, .inl c, .inl l]) [] σ K := by
  show AW _ mX4_tank 0 [_, _, _, _] _ _ _
  refine aw_iload_n dX4_tank_0 rfl rfl ?_
  refine aw_iconst 1 dX4_tank_1 rfl (by decide) ?_
  refine aw_bipush 99 dX4_tank_2 rfl (by decide) ?_
  refine aw_S3 (M' := mX4_within) dX4_tank_4 rfl lkX4_71 gX4_within (Nat.le_of_ble_eq_true rfl) (sX4_within ?_)
  show AW _ mX4_tank 7 _ (_ :: _) _ _
  refine aw_if_eqb (tgt := 30) dX4_tank_7 rfl rfl (fun c7 => ?_) (fun c7 => ?_)
  · skip
    refine aw_bipush (-2) dX4_tank_30 rfl (by decide) ?_
    refine aw_ret dX4_tank_32 rfl rfl ?_
    exact k1 (fun z => by simp_all)
  · skip
    refine aw_iload_n dX4_tank_10 rfl rfl ?_
    refine aw_iconst 0 dX4_tank_11 rfl (by decide) ?_
    refine aw_iconst 3 dX4_tank_12 rfl (by decide) ?_
    refine aw_S3 (M' := mX4_within) dX4_tank_13 rfl lkX4_71 gX4_within (Nat.le_of_ble_eq_true rfl) (sX4_within ?_)
    show AW _ mX4_tank 16 _ (_ :: _) _ _
    refine aw_if_eqb (tgt := 30) dX4_tank_16 rfl rfl (fun c16 => ?_) (fun c16 => ?_)
    · skip
      refine aw_bipush (-2) dX4_tank_30 rfl (by decide) ?_
      refine aw_ret dX4_tank_32 rfl rfl ?_
      exact k1 (fun z => by simp_all)
    · skip
      refine aw_iload_n dX4_tank_19 rfl rfl ?_
      refine aw_bipush (-9) dX4_tank_20 rfl (by decide) ?_
      refine aw_bipush 9 dX4_tank_22 rfl (by decide) ?_
      refine aw_S3 (M' := mX4_within) dX4_tank_24 rfl lkX4_71 gX4_within (Nat.le_of_ble_eq_true rfl) (sX4_within ?_)
      show AW _ mX4_tank 27 _ (_ :: _) _ _
      refine aw_if_neb (tgt := 33) dX4_tank_27 rfl rfl (fun c27 => ?_) (fun c27 => ?_)
      · skip
        refine aw_aload_n dX4_tank_33 rfl rfl ?_
        refine aw_getI dX4_tank_34 rfl rfl rfl flX4_75 ?_
        refine aw_bipush 6 dX4_tank_37 rfl (by decide) ?_
        refine aw_icmp_ne (tgt := 45) dX4_tank_39 rfl rfl (fun c39 => ?_) (fun c39 => ?_)
        · skip
          have hn6 : n < 6 := by
            rcases Nat.lt_or_ge n 6 with h | h
            · exact h
            · exact absurd (by rw [h0, show n = 6 by omega]; decide) c39
          have hcl : (nI n).toNatClampNeg = n := nI_clamp (by omega)
          refine aw_aload_n dX4_tank_45 rfl rfl ?_
          refine aw_getR dX4_tank_46 rfl rfl rfl (by decide) flX4_7 ?_
          refine aw_aload_n dX4_tank_49 rfl rfl ?_
          refine aw_getI dX4_tank_50 rfl rfl rfl flX4_75 ?_
          refine aw_iload_n dX4_tank_53 rfl rfl ?_
          refine aw_iast dX4_tank_54 rfl rfl (by simp only [rp_nk, ne_eq, Nat.reduceEqDiff, not_false_eq_true, h0]; exact vp_in_nI (by omega) (by omega)) ?_
          refine aw_aload_n dX4_tank_55 rfl rfl ?_
          refine aw_getR dX4_tank_56 rfl rfl rfl (by decide) flX4_13 ?_
          refine aw_aload_n dX4_tank_59 rfl rfl ?_
          refine aw_getI dX4_tank_60 rfl rfl rfl flX4_75 ?_
          refine aw_iload_n dX4_tank_63 rfl rfl ?_
          refine aw_iast dX4_tank_64 rfl rfl (by simp only [rp_nk, ne_eq, Nat.reduceEqDiff, not_false_eq_true, h0]; exact vp_in_nI (by omega) (by omega)) ?_
          refine aw_aload_n dX4_tank_65 rfl rfl ?_
          refine aw_getR dX4_tank_66 rfl rfl rfl (by decide) flX4_16 ?_
          refine aw_aload_n dX4_tank_69 rfl rfl ?_
          refine aw_getI dX4_tank_70 rfl rfl rfl flX4_75 ?_
          refine aw_iload_n dX4_tank_73 rfl rfl ?_
          refine aw_iast dX4_tank_74 rfl rfl (by simp only [rp_nk, ne_eq, Nat.reduceEqDiff, not_false_eq_true, h0]; exact vp_in_nI (by omega) (by omega)) ?_
          refine aw_aload_n dX4_tank_75 rfl rfl ?_
          refine aw_dup dX4_tank_76 rfl ?_
          refine aw_getI dX4_tank_77 rfl rfl rfl flX4_75 ?_
          refine aw_iconst 1 dX4_tank_80 rfl (by decide) ?_
          refine aw_iadd dX4_tank_81 rfl ?_
          refine aw_putI dX4_tank_82 rfl rfl rfl flX4_75 (pf_4_0 _) ?_
          refine aw_aload_n dX4_tank_85 rfl rfl ?_
          refine aw_getI dX4_tank_86 rfl rfl rfl flX4_75 ?_
          refine aw_iconst 1 dX4_tank_89 rfl (by decide) ?_
          refine aw_isub dX4_tank_90 rfl ?_
          refine aw_ret dX4_tank_91 rfl rfl ?_
          refine kk_c (k3 ⟨by assumption, by assumption, by assumption⟩ hn6) ?_ ?_
          · simp only [rp_nk, rp_at, rp_rp, pk_us, ne_eq, Nat.reduceEqDiff, not_false_eq_true, h0, hcl]
            rw [← nI_succ, nI_pred]
          · simp only [rp_nk, rp_at, rp_rp, pk_us, ne_eq, Nat.reduceEqDiff, not_false_eq_true, h0, hcl, nI_succ]
        · skip
          refine aw_bipush (-4) dX4_tank_42 rfl (by decide) ?_
          refine aw_ret dX4_tank_44 rfl rfl ?_
          exact k2 ⟨by assumption, by assumption, by assumption⟩ ((nI_eq (by omega) (by decide)).mp (h0.symm.trans c39))
      · skip
        refine aw_bipush (-2) dX4_tank_30 rfl (by decide) ?_
        refine aw_ret dX4_tank_32 rfl rfl ?_
        exact k1 (fun z => by simp_all)
set_option maxRecDepth 4000 in
theorem sX4_neighbours {d : Nat} {σ : SS} {K : ax_K} {i j b3 : Int32} {n : Nat} (hn : n ≤ 6) (h0 : σ 28 0 0 = nI n) (k1 : ¬ (ixn i n ∧ ixn j n ∧ i ≠ j) → K (some (-1)) σ) (k2 : ∀ a b, a < n → b < n → a ≠ b → i = nI a → j = nI b → bB (hb (σ 32 0 a) (nI b)) = b3 → K (some 0) σ) (k3 : ∀ a b, a < n → b < n → a ≠ b → i = nI a → j = nI b → ¬ bB (hb (σ 32 0 a) (nI b)) = b3 → K (some 1) (rp σ 32 0 (upd (upd (σ 32 0) a (σ 32 0 a ^^^ bt b)) b (σ 32 0 b ^^^ bt a)))) : AW (d + 3) mX4_neighbours 0 (ax_en mX4_neighbours [.inr (28, 0), .inl i, .inl j, .inl b3]) [] σ K := by
  show AW _ mX4_neighbours 0 [_, _, _, _] _ _ _
  refine aw_aload_n dX4_neighbours_0 rfl rfl ?_
  refine aw_iload_n dX4_neighbours_1 rfl rfl ?_
  refine aw_iload_n dX4_neighbours_2 rfl rfl ?_
  refine aw_V2 (M' := mX4_areTwo) dX4_neighbours_3 rfl lkX4_82 gX4_areTwo rfl rfl (Nat.le_of_ble_eq_true rfl) (sX4_areTwo hn h0 ?_)
  show AW _ mX4_neighbours 6 _ (_ :: _) _ _
  refine aw_if_neb (tgt := 11) dX4_neighbours_6 rfl rfl (fun c6 => ?_) (fun c6 => ?_)
  · skip
    obtain ⟨hi1, hj1, hij⟩ := c6
    obtain ⟨a, ha, rfl⟩ := ixn_of hi1 (by omega)
    obtain ⟨b, hb, rfl⟩ := ixn_of hj1 (by omega)
    have hab : a ≠ b := fun z => hij (by rw [z])
    have hca : (nI a).toNatClampNeg = a := nI_clamp (by omega)
    have hcb : (nI b).toNatClampNeg = b := nI_clamp (by omega)
    refine aw_aload_n dX4_neighbours_11 rfl rfl ?_
    refine aw_getR dX4_neighbours_12 rfl rfl rfl (by decide) flX4_19 ?_
    refine aw_iload_n dX4_neighbours_15 rfl rfl ?_
    refine aw_iald dX4_neighbours_16 rfl rfl (by first | exact vp_in_nI (by omega) (by omega) | decide) ?_
    refine aw_iload_n dX4_neighbours_17 rfl rfl ?_
    refine aw_S2 (M' := mX4_has) dX4_neighbours_18 rfl lkX4_86 gX4_has (Nat.le_of_ble_eq_true rfl) (sX4_has ?_)
    show AW _ mX4_neighbours 21 _ (_ :: _) _ _
    refine aw_iload_n dX4_neighbours_21 rfl rfl ?_
    refine aw_icmp_ne (tgt := 27) dX4_neighbours_22 rfl rfl (fun c22 => ?_) (fun c22 => ?_)
    · skip
      refine aw_aload_n dX4_neighbours_27 rfl rfl ?_
      refine aw_getR dX4_neighbours_28 rfl rfl rfl (by decide) flX4_19 ?_
      refine aw_iload_n dX4_neighbours_31 rfl rfl ?_
      refine aw_dup2 dX4_neighbours_32 rfl ?_
      refine aw_iald dX4_neighbours_33 rfl rfl (by first | exact vp_in_nI (by omega) (by omega) | decide) ?_
      refine aw_iconst 1 dX4_neighbours_34 rfl (by decide) ?_
      refine aw_iload_n dX4_neighbours_35 rfl rfl ?_
      refine aw_ishl dX4_neighbours_36 rfl ?_
      refine aw_ixor dX4_neighbours_37 rfl ?_
      refine aw_iast dX4_neighbours_38 rfl rfl (by first | exact vp_in_nI (by omega) (by omega) | decide) ?_
      refine aw_aload_n dX4_neighbours_39 rfl rfl ?_
      refine aw_getR dX4_neighbours_40 rfl rfl rfl (by decide) flX4_19 ?_
      refine aw_iload_n dX4_neighbours_43 rfl rfl ?_
      refine aw_dup2 dX4_neighbours_44 rfl ?_
      refine aw_iald dX4_neighbours_45 rfl rfl (by first | exact vp_in_nI (by omega) (by omega) | decide) ?_
      refine aw_iconst 1 dX4_neighbours_46 rfl (by decide) ?_
      refine aw_iload_n dX4_neighbours_47 rfl rfl ?_
      refine aw_ishl dX4_neighbours_48 rfl ?_
      refine aw_ixor dX4_neighbours_49 rfl ?_
      refine aw_iast dX4_neighbours_50 rfl rfl (by first | exact vp_in_nI (by omega) (by omega) | decide) ?_
      refine aw_iconst 1 dX4_neighbours_51 rfl (by decide) ?_
      refine aw_ret dX4_neighbours_52 rfl rfl ?_
      rw [hca] at c22
      refine kk_c (k3 a b ha hb hab rfl rfl c22) rfl ?_
      simp only [rp_nk, rp_at, rp_rp, pk_us, ne_eq, Nat.reduceEqDiff, not_false_eq_true, hca, hcb]
      rw [pk_un (Ne.symm hab)]
    · skip
      refine aw_iconst 0 dX4_neighbours_25 rfl (by decide) ?_
      refine aw_ret dX4_neighbours_26 rfl rfl ?_
      rw [hca] at c22
      exact k2 a b ha hb hab rfl rfl c22
  · skip
    refine aw_iconst (-1) dX4_neighbours_9 rfl (by decide) ?_
    refine aw_ret dX4_neighbours_10 rfl rfl ?_
    exact k1 c6
set_option maxRecDepth 4000 in
theorem sX4_latest {d : Nat} {σ : SS} {K : ax_K} {t k l : Int32} {n : Nat} (hn : n ≤ 6) (h0 : σ 28 0 0 = nI n) (k1 : ¬ ixn t n → K (some (-1)) σ) (k2 : ixn t n → ¬ ((0 ≤ k ∧ k ≤ 2) ∧ (l = -9 ∨ lq l)) → K (some (-2)) σ) (k3 : ∀ a b, a < n → b < 3 → t = nI a → k = nI b → (l = -9 ∨ lq l) → K (some (σ 33 0 (3 * a + b))) (rp σ 33 0 (upd (σ 33 0) (3 * a + b) l))) : AW (d + 2) mX4_latest 0 (ax_en mX4_latest [.inr (28, 0), .inl t, .inl k, .inl l]) [] σ K := by
  show AW _ mX4_latest 0 [_, _, _, _, _] _ _ _
  refine aw_aload_n dX4_latest_0 rfl rfl ?_
  refine aw_iload_n dX4_latest_1 rfl rfl ?_
  refine aw_V1 (M' := mX4_isTank) dX4_latest_2 rfl lkX4_78 gX4_isTank rfl rfl (Nat.le_of_ble_eq_true rfl) (sX4_isTank hn h0 ?_)
  show AW _ mX4_latest 5 _ (_ :: _) _ _
  refine aw_if_neb (tgt := 10) dX4_latest_5 rfl rfl (fun c5 => ?_) (fun c5 => ?_)
  · skip
    refine aw_iload_n dX4_latest_10 rfl rfl ?_
    refine aw_iconst 0 dX4_latest_11 rfl (by decide) ?_
    refine aw_iconst 2 dX4_latest_12 rfl (by decide) ?_
    refine aw_S3 (M' := mX4_within) dX4_latest_13 rfl lkX4_71 gX4_within (Nat.le_of_ble_eq_true rfl) (sX4_within ?_)
    show AW _ mX4_latest 16 _ (_ :: _) _ _
    refine aw_if_eqb (tgt := 32) dX4_latest_16 rfl rfl (fun c16 => ?_) (fun c16 => ?_)
    · skip
      refine aw_bipush (-2) dX4_latest_32 rfl (by decide) ?_
      refine aw_ret dX4_latest_34 rfl rfl ?_
      exact k2 c5 (fun z => by first | exact c16 z.1 | exact z.2.elim c22 c29)
    · skip
      refine aw_iload_n dX4_latest_19 rfl rfl ?_
      refine aw_bipush (-9) dX4_latest_20 rfl (by decide) ?_
      refine aw_icmp_eq (tgt := 35) dX4_latest_22 rfl rfl (fun c22 => ?_) (fun c22 => ?_)
      · skip
        obtain ⟨a, ha, rfl⟩ := ixn_of c5 (by omega)
        obtain ⟨b, hb, rfl⟩ := bd_of 2 (by decide) c16
        have hca : (nI (3 * a + b)).toNatClampNeg = 3 * a + b := nI_clamp (by omega)
        refine aw_aload_n dX4_latest_35 rfl rfl ?_
        refine aw_getR dX4_latest_36 rfl rfl rfl (by decide) flX4_22 ?_
        refine aw_iconst 3 dX4_latest_39 rfl (by decide) ?_
        refine aw_iload_n dX4_latest_40 rfl rfl ?_
        refine aw_imul dX4_latest_41 rfl ?_
        refine aw_iload_n dX4_latest_42 rfl rfl ?_
        refine aw_iadd dX4_latest_43 rfl ?_
        refine aw_iald dX4_latest_44 rfl rfl (by rw [ix3]; exact vp_in_nI (by omega) (by omega)) ?_
        refine aw_istore dX4_latest_45 rfl (by decide) ?_
        show AW _ mX4_latest 47 [_, _, _, _, _] _ _ _
        refine aw_aload_n dX4_latest_47 rfl rfl ?_
        refine aw_getR dX4_latest_48 rfl rfl rfl (by decide) flX4_22 ?_
        refine aw_iconst 3 dX4_latest_51 rfl (by decide) ?_
        refine aw_iload_n dX4_latest_52 rfl rfl ?_
        refine aw_imul dX4_latest_53 rfl ?_
        refine aw_iload_n dX4_latest_54 rfl rfl ?_
        refine aw_iadd dX4_latest_55 rfl ?_
        refine aw_iload_n dX4_latest_56 rfl rfl ?_
        refine aw_iast dX4_latest_57 rfl rfl (by rw [ix3]; exact vp_in_nI (by omega) (by omega)) ?_
        refine aw_iload dX4_latest_58 rfl rfl ?_
        refine aw_ret dX4_latest_60 rfl rfl ?_
        have hl : l = -9 ∨ lq l := by first | exact Or.inl (by assumption) | exact Or.inr (by assumption)
        exact kk_c (k3 a b ha (by omega) rfl rfl hl) (by rw [ix3, hca]) (by rw [ix3, hca])
      · skip
        refine aw_iload_n dX4_latest_25 rfl rfl ?_
        refine aw_S1 (M' := mX4_isLiquid) dX4_latest_26 rfl lkX4_89 gX4_isLiquid (Nat.le_of_ble_eq_true rfl) (sX4_isLiquid ?_)
        show AW _ mX4_latest 29 _ (_ :: _) _ _
        refine aw_if_neb (tgt := 35) dX4_latest_29 rfl rfl (fun c29 => ?_) (fun c29 => ?_)
        · skip
          obtain ⟨a, ha, rfl⟩ := ixn_of c5 (by omega)
          obtain ⟨b, hb, rfl⟩ := bd_of 2 (by decide) c16
          have hca : (nI (3 * a + b)).toNatClampNeg = 3 * a + b := nI_clamp (by omega)
          refine aw_aload_n dX4_latest_35 rfl rfl ?_
          refine aw_getR dX4_latest_36 rfl rfl rfl (by decide) flX4_22 ?_
          refine aw_iconst 3 dX4_latest_39 rfl (by decide) ?_
          refine aw_iload_n dX4_latest_40 rfl rfl ?_
          refine aw_imul dX4_latest_41 rfl ?_
          refine aw_iload_n dX4_latest_42 rfl rfl ?_
          refine aw_iadd dX4_latest_43 rfl ?_
          refine aw_iald dX4_latest_44 rfl rfl (by rw [ix3]; exact vp_in_nI (by omega) (by omega)) ?_
          refine aw_istore dX4_latest_45 rfl (by decide) ?_
          show AW _ mX4_latest 47 [_, _, _, _, _] _ _ _
          refine aw_aload_n dX4_latest_47 rfl rfl ?_
          refine aw_getR dX4_latest_48 rfl rfl rfl (by decide) flX4_22 ?_
          refine aw_iconst 3 dX4_latest_51 rfl (by decide) ?_
          refine aw_iload_n dX4_latest_52 rfl rfl ?_
          refine aw_imul dX4_latest_53 rfl ?_
          refine aw_iload_n dX4_latest_54 rfl rfl ?_
          refine aw_iadd dX4_latest_55 rfl ?_
          refine aw_iload_n dX4_latest_56 rfl rfl ?_
          refine aw_iast dX4_latest_57 rfl rfl (by rw [ix3]; exact vp_in_nI (by omega) (by omega)) ?_
          refine aw_iload dX4_latest_58 rfl rfl ?_
          refine aw_ret dX4_latest_60 rfl rfl ?_
          have hl : l = -9 ∨ lq l := by first | exact Or.inl (by assumption) | exact Or.inr (by assumption)
          exact kk_c (k3 a b ha (by omega) rfl rfl hl) (by rw [ix3, hca]) (by rw [ix3, hca])
        · skip
          refine aw_bipush (-2) dX4_latest_32 rfl (by decide) ?_
          refine aw_ret dX4_latest_34 rfl rfl ?_
          exact k2 c5 (fun z => by first | exact c16 z.1 | exact z.2.elim c22 c29)
  · skip
    refine aw_iconst (-1) dX4_latest_8 rfl (by decide) ?_
    refine aw_ret dX4_latest_9 rfl rfl ?_
    exact k1 c5
set_option maxRecDepth 4000 in
theorem sX4_cargo {d : Nat} {σ : SS} {K : ax_K} {l v c b e r : Int32} {cn : Nat} (hc : cn ≤ 4) (h9 : σ 28 0 9 = nI cn) (k1 : ¬ lq l → K (some (-1)) σ) (k2 : lq l → ¬ cgOK v c b e r → K (some (-2)) σ) (k3 : lq l → cgOK v c b e r → cn = 4 → K (some (-4)) σ) (k4 : lq l → cgOK v c b e r → cn < 4 → K (some (nI cn)) (rp (rp (rp (rp (rp (rp (rp σ 37 0 (upd (σ 37 0) cn l)) 38 0 (upd (σ 38 0) cn v)) 39 0 (upd (σ 39 0) cn c)) 40 0 (upd (σ 40 0) cn b)) 41 0 (upd (σ 41 0) cn e)) 42 0 (upd (σ 42 0) cn r)) 28 0 (upd (σ 28 0) 9 (nI (cn + 1))))) : AW (d + 2) mX4_cargo 0 (ax_en mX4_cargo [.inr (28, 0), .inl l, .inl v, .inl c, .inl b, .inl e, .inl r]) [] σ K := by
  show AW _ mX4_cargo 0 [_, _, _, _, _, _, _] _ _ _
  refine aw_iload_n dX4_cargo_0 rfl rfl ?_
  refine aw_S1 (M' := mX4_isLiquid) dX4_cargo_1 rfl lkX4_89 gX4_isLiquid (Nat.le_of_ble_eq_true rfl) (sX4_isLiquid ?_)
  show AW _ mX4_cargo 4 _ (_ :: _) _ _
  refine aw_if_neb (tgt := 9) dX4_cargo_4 rfl rfl (fun c4 => ?_) (fun c4 => ?_)
  · skip
    refine aw_iload_n dX4_cargo_9 rfl rfl ?_
    refine aw_iconst 1 dX4_cargo_10 rfl (by decide) ?_
    refine aw_sipush 400 dX4_cargo_11 rfl (by decide) ?_
    refine aw_S3 (M' := mX4_within) dX4_cargo_14 rfl lkX4_71 gX4_within (Nat.le_of_ble_eq_true rfl) (sX4_within ?_)
    show AW _ mX4_cargo 17 _ (_ :: _) _ _
    refine aw_if_eqb (tgt := 54) dX4_cargo_17 rfl rfl (fun c17 => ?_) (fun c17 => ?_)
    · skip
      refine aw_bipush (-2) dX4_cargo_54 rfl (by decide) ?_
      refine aw_ret dX4_cargo_56 rfl rfl ?_
      exact k2 c4 (fun z => by simp_all)
    · skip
      refine aw_iload_n dX4_cargo_20 rfl rfl ?_
      refine aw_iconst 0 dX4_cargo_21 rfl (by decide) ?_
      refine aw_bipush 15 dX4_cargo_22 rfl (by decide) ?_
      refine aw_S3 (M' := mX4_within) dX4_cargo_24 rfl lkX4_71 gX4_within (Nat.le_of_ble_eq_true rfl) (sX4_within ?_)
      show AW _ mX4_cargo 27 _ (_ :: _) _ _
      refine aw_if_eqb (tgt := 54) dX4_cargo_27 rfl rfl (fun c27 => ?_) (fun c27 => ?_)
      · skip
        refine aw_bipush (-2) dX4_cargo_54 rfl (by decide) ?_
        refine aw_ret dX4_cargo_56 rfl rfl ?_
        exact k2 c4 (fun z => by simp_all)
      · skip
        refine aw_iload dX4_cargo_30 rfl rfl ?_
        refine aw_S1 (M' := mX4_isSet) dX4_cargo_32 rfl lkX4_95 gX4_isSet (Nat.le_of_ble_eq_true rfl) (sX4_isSet ?_)
        show AW _ mX4_cargo 35 _ (_ :: _) _ _
        refine aw_if_eqb (tgt := 54) dX4_cargo_35 rfl rfl (fun c35 => ?_) (fun c35 => ?_)
        · skip
          refine aw_bipush (-2) dX4_cargo_54 rfl (by decide) ?_
          refine aw_ret dX4_cargo_56 rfl rfl ?_
          exact k2 c4 (fun z => by simp_all)
        · skip
          refine aw_iload dX4_cargo_38 rfl rfl ?_
          refine aw_S1 (M' := mX4_isSet) dX4_cargo_40 rfl lkX4_95 gX4_isSet (Nat.le_of_ble_eq_true rfl) (sX4_isSet ?_)
          show AW _ mX4_cargo 43 _ (_ :: _) _ _
          refine aw_if_eqb (tgt := 54) dX4_cargo_43 rfl rfl (fun c43 => ?_) (fun c43 => ?_)
          · skip
            refine aw_bipush (-2) dX4_cargo_54 rfl (by decide) ?_
            refine aw_ret dX4_cargo_56 rfl rfl ?_
            exact k2 c4 (fun z => by simp_all)
          · skip
            refine aw_iload dX4_cargo_46 rfl rfl ?_
            refine aw_S1 (M' := mX4_isSet) dX4_cargo_48 rfl lkX4_95 gX4_isSet (Nat.le_of_ble_eq_true rfl) (sX4_isSet ?_)
            show AW _ mX4_cargo 51 _ (_ :: _) _ _
            refine aw_if_neb (tgt := 57) dX4_cargo_51 rfl rfl (fun c51 => ?_) (fun c51 => ?_)
            · skip
              refine aw_aload_n dX4_cargo_57 rfl rfl ?_
              refine aw_getI dX4_cargo_58 rfl rfl rfl flX4_92 ?_
              refine aw_iconst 4 dX4_cargo_61 rfl (by decide) ?_
              refine aw_icmp_ne (tgt := 68) dX4_cargo_62 rfl rfl (fun c62 => ?_) (fun c62 => ?_)
              · skip
                have hn4 : cn < 4 := by
                  rcases Nat.lt_or_ge cn 4 with h | h
                  · exact h
                  · exact absurd (by rw [h9, show cn = 4 by omega]; decide) c62
                have hcl : (nI cn).toNatClampNeg = cn := nI_clamp (by omega)
                refine aw_aload_n dX4_cargo_68 rfl rfl ?_
                refine aw_getR dX4_cargo_69 rfl rfl rfl (by decide) flX4_34 ?_
                refine aw_aload_n dX4_cargo_72 rfl rfl ?_
                refine aw_getI dX4_cargo_73 rfl rfl rfl flX4_92 ?_
                refine aw_iload_n dX4_cargo_76 rfl rfl ?_
                refine aw_iast dX4_cargo_77 rfl rfl (by simp only [rp_nk, ne_eq, Nat.reduceEqDiff, not_false_eq_true, h9]; exact vp_in_nI (by omega) (by omega)) ?_
                refine aw_aload_n dX4_cargo_78 rfl rfl ?_
                refine aw_getR dX4_cargo_79 rfl rfl rfl (by decide) flX4_37 ?_
                refine aw_aload_n dX4_cargo_82 rfl rfl ?_
                refine aw_getI dX4_cargo_83 rfl rfl rfl flX4_92 ?_
                refine aw_iload_n dX4_cargo_86 rfl rfl ?_
                refine aw_iast dX4_cargo_87 rfl rfl (by simp only [rp_nk, ne_eq, Nat.reduceEqDiff, not_false_eq_true, h9]; exact vp_in_nI (by omega) (by omega)) ?_
                refine aw_aload_n dX4_cargo_88 rfl rfl ?_
                refine aw_getR dX4_cargo_89 rfl rfl rfl (by decide) flX4_40 ?_
                refine aw_aload_n dX4_cargo_92 rfl rfl ?_
                refine aw_getI dX4_cargo_93 rfl rfl rfl flX4_92 ?_
                refine aw_iload_n dX4_cargo_96 rfl rfl ?_
                refine aw_iast dX4_cargo_97 rfl rfl (by simp only [rp_nk, ne_eq, Nat.reduceEqDiff, not_false_eq_true, h9]; exact vp_in_nI (by omega) (by omega)) ?_
                refine aw_aload_n dX4_cargo_98 rfl rfl ?_
                refine aw_getR dX4_cargo_99 rfl rfl rfl (by decide) flX4_43 ?_
                refine aw_aload_n dX4_cargo_102 rfl rfl ?_
                refine aw_getI dX4_cargo_103 rfl rfl rfl flX4_92 ?_
                refine aw_iload dX4_cargo_106 rfl rfl ?_
                refine aw_iast dX4_cargo_108 rfl rfl (by simp only [rp_nk, ne_eq, Nat.reduceEqDiff, not_false_eq_true, h9]; exact vp_in_nI (by omega) (by omega)) ?_
                refine aw_aload_n dX4_cargo_109 rfl rfl ?_
                refine aw_getR dX4_cargo_110 rfl rfl rfl (by decide) flX4_46 ?_
                refine aw_aload_n dX4_cargo_113 rfl rfl ?_
                refine aw_getI dX4_cargo_114 rfl rfl rfl flX4_92 ?_
                refine aw_iload dX4_cargo_117 rfl rfl ?_
                refine aw_iast dX4_cargo_119 rfl rfl (by simp only [rp_nk, ne_eq, Nat.reduceEqDiff, not_false_eq_true, h9]; exact vp_in_nI (by omega) (by omega)) ?_
                refine aw_aload_n dX4_cargo_120 rfl rfl ?_
                refine aw_getR dX4_cargo_121 rfl rfl rfl (by decide) flX4_49 ?_
                refine aw_aload_n dX4_cargo_124 rfl rfl ?_
                refine aw_getI dX4_cargo_125 rfl rfl rfl flX4_92 ?_
                refine aw_iload dX4_cargo_128 rfl rfl ?_
                refine aw_iast dX4_cargo_130 rfl rfl (by simp only [rp_nk, ne_eq, Nat.reduceEqDiff, not_false_eq_true, h9]; exact vp_in_nI (by omega) (by omega)) ?_
                refine aw_aload_n dX4_cargo_131 rfl rfl ?_
                refine aw_dup dX4_cargo_132 rfl ?_
                refine aw_getI dX4_cargo_133 rfl rfl rfl flX4_92 ?_
                refine aw_iconst 1 dX4_cargo_136 rfl (by decide) ?_
                refine aw_iadd dX4_cargo_137 rfl ?_
                refine aw_putI dX4_cargo_138 rfl rfl rfl flX4_92 (pf_4_9 _) ?_
                refine aw_aload_n dX4_cargo_141 rfl rfl ?_
                refine aw_getI dX4_cargo_142 rfl rfl rfl flX4_92 ?_
                refine aw_iconst 1 dX4_cargo_145 rfl (by decide) ?_
                refine aw_isub dX4_cargo_146 rfl ?_
                refine aw_ret dX4_cargo_147 rfl rfl ?_
                refine kk_c (k4 c4 ⟨by assumption, by assumption, by assumption, by assumption, by assumption⟩ hn4) ?_ ?_
                · simp only [rp_nk, rp_at, rp_rp, pk_us, ne_eq, Nat.reduceEqDiff, not_false_eq_true, h9, hcl]
                  rw [← nI_succ, nI_pred]
                · simp only [rp_nk, rp_at, rp_rp, pk_us, ne_eq, Nat.reduceEqDiff, not_false_eq_true, h9, hcl, nI_succ]
              · skip
                refine aw_bipush (-4) dX4_cargo_65 rfl (by decide) ?_
                refine aw_ret dX4_cargo_67 rfl rfl ?_
                exact k3 c4 ⟨by assumption, by assumption, by assumption, by assumption, by assumption⟩ ((nI_eq (by omega) (by decide)).mp (h9.symm.trans c62))
            · skip
              refine aw_bipush (-2) dX4_cargo_54 rfl (by decide) ?_
              refine aw_ret dX4_cargo_56 rfl rfl ?_
              exact k2 c4 (fun z => by simp_all)
  · skip
    refine aw_iconst (-1) dX4_cargo_7 rfl (by decide) ?_
    refine aw_ret dX4_cargo_8 rfl rfl ?_
    exact k1 c4
set_option maxRecDepth 4000 in
theorem sX4_uncargo {d : Nat} {σ : SS} {K : ax_K} {n cn : Nat} (hn : n ≤ 6) (h0 : σ 28 0 0 = nI n) (hc : cn ≤ 4) (h9 : σ 28 0 9 = nI cn) (k1 : cn = 0 → K (some (-3)) σ) (k2 : ∀ m, cn = m + 1 → 0 < cntI n (fun t => σ 35 0 t = nI m) → K (some (-3)) σ) (k3 : ∀ m, cn = m + 1 → ¬ 0 < cntI n (fun t => σ 35 0 t = nI m) → K (some (nI m)) (rp (rp σ 28 0 (upd (σ 28 0) 9 (nI m))) 34 0 (fun t => if t < n then (if σ 34 0 t = nI m then -9 else σ 34 0 t) else σ 34 0 t))) : AW (d + 1) mX4_uncargo 0 (ax_en mX4_uncargo [.inr (28, 0)]) [] σ K := by
  show AW _ mX4_uncargo 0 [_, _] _ _ _
  refine aw_aload_n dX4_uncargo_0 rfl rfl ?_
  refine aw_getI dX4_uncargo_1 rfl rfl rfl flX4_92 ?_
  refine aw_if_eq (tgt := 20) dX4_uncargo_4 rfl rfl (fun c4 => ?_) (fun c4 => ?_)
  · skip
    refine aw_bipush (-3) dX4_uncargo_20 rfl (by decide) ?_
    refine aw_ret dX4_uncargo_22 rfl rfl ?_
    exact k1 ((nI_eq (by omega) (by decide)).mp ((h9.symm.trans c4).trans nI_0.symm))
  · skip
    obtain ⟨mm, rfl⟩ : ∃ m, cn = m + 1 := by
      cases cn with
      | zero => exact absurd (h9.trans nI_0) c4
      | succ m => exact ⟨m, rfl⟩
    refine aw_aload_n dX4_uncargo_7 rfl rfl ?_
    refine aw_aload_n dX4_uncargo_8 rfl rfl ?_
    refine aw_getI dX4_uncargo_9 rfl rfl rfl flX4_92 ?_
    refine aw_iconst 1 dX4_uncargo_12 rfl (by decide) ?_
    refine aw_isub dX4_uncargo_13 rfl ?_
    rw [h9, nI_pred]
    refine aw_V1 (M' := mX4_holders) dX4_uncargo_14 rfl lkX4_98 gX4_holders rfl rfl (Nat.le_of_ble_eq_true rfl) (sX4_holders hn h0 ?_)
    show AW _ mX4_uncargo 17 _ (_ :: _) _ _
    refine aw_if_le (tgt := 23) dX4_uncargo_17 rfl rfl (fun c17 => ?_) (fun c17 => ?_)
    · skip
      have c17' := Int32.not_lt.mpr c17
      refine aw_aload_n dX4_uncargo_23 rfl rfl ?_
      refine aw_dup dX4_uncargo_24 rfl ?_
      refine aw_getI dX4_uncargo_25 rfl rfl rfl flX4_92 ?_
      refine aw_iconst 1 dX4_uncargo_28 rfl (by decide) ?_
      refine aw_isub dX4_uncargo_29 rfl ?_
      refine aw_putI dX4_uncargo_30 rfl rfl rfl flX4_92 (pf_4_9 _) ?_
      rw [h9, nI_pred]
      have h0b : (rp σ 28 0 (upd (σ 28 0) 9 (nI mm))) 28 0 0 = nI n := by rw [rp_at]; exact (pk_un (by decide)).trans h0
      refine aw_iconst 0 dX4_uncargo_33 rfl (by decide) ?_
      refine aw_istore_n dX4_uncargo_34 rfl (by decide) ?_
      show AW _ mX4_uncargo 35 [_, _] _ _ _
      refine AW.conv (ax_loop (P := fun i => AW (d + 1) mX4_uncargo 35 [some (.inr (28, 0)), some (.inl (nI i))] [] (rp (rp σ 28 0 (upd (σ 28 0) 9 (nI mm))) 34 0 (fun t => if t < i then (if σ 34 0 t = nI mm then -9 else σ 34 0 t) else σ 34 0 t)) K) n ?_ ?_ 0 (Nat.zero_le _)) (by first | (simp only [nI_0]; done) | (simp only [nI_0]; rfl)) rfl (by rw [up_0, rp_self2 (by decide)])
      · try dsimp only
        refine aw_iload_n dX4_uncargo_35 rfl rfl ?_
        refine aw_aload_n dX4_uncargo_36 rfl rfl ?_
        refine aw_getI dX4_uncargo_37 rfl rfl rfl flX4_75 ?_
        refine aw_icmp_ge (tgt := 79) dX4_uncargo_40 rfl rfl (fun _ => ?_) (fun z => absurd (by rw [rp_nk (by decide), h0b]; exact Int32.le_refl _) z)
        refine aw_aload_n dX4_uncargo_79 rfl rfl ?_
        refine aw_getI dX4_uncargo_80 rfl rfl rfl flX4_92 ?_
        refine aw_ret dX4_uncargo_83 rfl rfl ?_
        refine kk_c (k3 mm rfl c17') ?_ rfl
        simp only [rp_nk, rp_at, pk_us, ne_eq, Nat.reduceEqDiff, not_false_eq_true]
      · intro i hi_35 nx_35
        try dsimp only at nx_35 ⊢
        have hci : (nI i).toNatClampNeg = i := nI_clamp (by omega)
        refine aw_iload_n dX4_uncargo_35 rfl rfl ?_
        refine aw_aload_n dX4_uncargo_36 rfl rfl ?_
        refine aw_getI dX4_uncargo_37 rfl rfl rfl flX4_75 ?_
        refine aw_icmp_ge (tgt := 79) dX4_uncargo_40 rfl rfl (fun z => absurd z (by rw [rp_nk (by decide), h0b]; exact nI_ge hi_35 (by omega))) (fun _ => ?_)
        refine aw_aload_n dX4_uncargo_43 rfl rfl ?_
        refine aw_getR dX4_uncargo_44 rfl rfl rfl (by decide) flX4_25 ?_
        refine aw_iload_n dX4_uncargo_47 rfl rfl ?_
        refine aw_aload_n dX4_uncargo_48 rfl rfl ?_
        refine aw_getR dX4_uncargo_49 rfl rfl rfl (by decide) flX4_25 ?_
        refine aw_iload_n dX4_uncargo_52 rfl rfl ?_
        refine aw_iald dX4_uncargo_53 rfl rfl (by first | exact vp_in_nI (by omega) (by omega) | decide) ?_
        refine aw_aload_n dX4_uncargo_54 rfl rfl ?_
        refine aw_getI dX4_uncargo_55 rfl rfl rfl flX4_92 ?_
        refine aw_icmp_ne (tgt := 66) dX4_uncargo_58 rfl rfl (fun c58 => ?_) (fun c58 => ?_)
        · skip
          refine aw_aload_n dX4_uncargo_66 rfl rfl ?_
          refine aw_getR dX4_uncargo_67 rfl rfl rfl (by decide) flX4_25 ?_
          refine aw_iload_n dX4_uncargo_70 rfl rfl ?_
          refine aw_iald dX4_uncargo_71 rfl rfl (by first | exact vp_in_nI (by omega) (by omega) | decide) ?_
          refine aw_iast dX4_uncargo_72 rfl rfl (by first | exact vp_in_nI (by omega) (by omega) | decide) ?_
          refine aw_iinc dX4_uncargo_73 rfl rfl (ii_1 _) (by decide) ?_
          show AW _ mX4_uncargo 76 [_, _] _ _ _
          refine aw_goto (q := 35) dX4_uncargo_76 rfl ?_
          refine AW.conv nx_35 (by first | (simp only [nI_succ]; done) | (simp only [nI_succ]; rfl)) rfl ?_
          simp only [rp_nk, rp_at, rp_rp, pk_us, ne_eq, Nat.reduceEqDiff, not_false_eq_true, hci, Nat.lt_irrefl, if_false] at c58 ⊢
          rw [← up_lt]
          simp [c58]
        · skip
          refine aw_bipush (-9) dX4_uncargo_61 rfl (by decide) ?_
          refine aw_goto (q := 72) dX4_uncargo_63 rfl ?_
          refine aw_iast dX4_uncargo_72 rfl rfl (by first | exact vp_in_nI (by omega) (by omega) | decide) ?_
          refine aw_iinc dX4_uncargo_73 rfl rfl (ii_1 _) (by decide) ?_
          show AW _ mX4_uncargo 76 [_, _] _ _ _
          refine aw_goto (q := 35) dX4_uncargo_76 rfl ?_
          refine AW.conv nx_35 (by first | (simp only [nI_succ]; done) | (simp only [nI_succ]; rfl)) rfl ?_
          simp only [rp_nk, rp_at, rp_rp, pk_us, ne_eq, Nat.reduceEqDiff, not_false_eq_true, hci, Nat.lt_irrefl, if_false] at c58 ⊢
          rw [← up_lt]
          simp [c58]
    · skip
      refine aw_bipush (-3) dX4_uncargo_20 rfl (by decide) ?_
      refine aw_ret dX4_uncargo_22 rfl rfl ?_
      exact k2 mm rfl (Int32.not_le.mp c17)
end
section
set_option maxRecDepth 4000 in
theorem sX4_amount {d : Nat} {σ : SS} {K : ax_K} {c v : Int32} {n cn : Nat} (hn : n ≤ 6) (h0 : σ 28 0 0 = nI n) (hc : cn ≤ 4) (h9 : σ 28 0 9 = nI cn) (k1 : ¬ ixn c cn → K (some (-1)) σ) (k2 : ixn c cn → ¬ (1 ≤ v ∧ v ≤ 400) → K (some (-2)) σ) (k3 : ixn c cn → (1 ≤ v ∧ v ≤ 400) → 0 < cntI n (fun t => σ 35 0 t = c) → K (some (-3)) σ) (k4 : ∀ a, a < cn → c = nI a → (1 ≤ v ∧ v ≤ 400) → ¬ 0 < cntI n (fun t => σ 35 0 t = c) → K (some (σ 38 0 a)) (rp σ 38 0 (upd (σ 38 0) a v))) : AW (d + 2) mX4_amount 0 (ax_en mX4_amount [.inr (28, 0), .inl c, .inl v]) [] σ K := by
  show AW _ mX4_amount 0 [_, _, _, _] _ _ _
  refine aw_aload_n dX4_amount_0 rfl rfl ?_
  refine aw_iload_n dX4_amount_1 rfl rfl ?_
  refine aw_V1 (M' := mX4_isCargo) dX4_amount_2 rfl lkX4_102 gX4_isCargo rfl rfl (Nat.le_of_ble_eq_true rfl) (sX4_isCargo hc h9 ?_)
  show AW _ mX4_amount 5 _ (_ :: _) _ _
  refine aw_if_neb (tgt := 10) dX4_amount_5 rfl rfl (fun c5 => ?_) (fun c5 => ?_)
  · skip
    refine aw_iload_n dX4_amount_10 rfl rfl ?_
    refine aw_iconst 1 dX4_amount_11 rfl (by decide) ?_
    refine aw_sipush 400 dX4_amount_12 rfl (by decide) ?_
    refine aw_S3 (M' := mX4_within) dX4_amount_15 rfl lkX4_71 gX4_within (Nat.le_of_ble_eq_true rfl) (sX4_within ?_)
    show AW _ mX4_amount 18 _ (_ :: _) _ _
    refine aw_if_neb (tgt := 24) dX4_amount_18 rfl rfl (fun c18 => ?_) (fun c18 => ?_)
    · skip
      refine aw_aload_n dX4_amount_24 rfl rfl ?_
      refine aw_iload_n dX4_amount_25 rfl rfl ?_
      refine aw_V1 (M' := mX4_holders) dX4_amount_26 rfl lkX4_98 gX4_holders rfl rfl (Nat.le_of_ble_eq_true rfl) (sX4_holders hn h0 ?_)
      show AW _ mX4_amount 29 _ (_ :: _) _ _
      refine aw_if_le (tgt := 35) dX4_amount_29 rfl rfl (fun c29 => ?_) (fun c29 => ?_)
      · skip
        have c29' := Int32.not_lt.mpr c29
        obtain ⟨a, ha, rfl⟩ := ixn_of c5 (by omega)
        have hca : (nI a).toNatClampNeg = a := nI_clamp (by omega)
        refine aw_aload_n dX4_amount_35 rfl rfl ?_
        refine aw_getR dX4_amount_36 rfl rfl rfl (by decide) flX4_37 ?_
        refine aw_iload_n dX4_amount_39 rfl rfl ?_
        refine aw_iald dX4_amount_40 rfl rfl (by first | exact vp_in_nI (by omega) (by omega) | decide) ?_
        refine aw_istore_n dX4_amount_41 rfl (by decide) ?_
        show AW _ mX4_amount 42 [_, _, _, _] _ _ _
        refine aw_aload_n dX4_amount_42 rfl rfl ?_
        refine aw_getR dX4_amount_43 rfl rfl rfl (by decide) flX4_37 ?_
        refine aw_iload_n dX4_amount_46 rfl rfl ?_
        refine aw_iload_n dX4_amount_47 rfl rfl ?_
        refine aw_iast dX4_amount_48 rfl rfl (by first | exact vp_in_nI (by omega) (by omega) | decide) ?_
        refine aw_iload_n dX4_amount_49 rfl rfl ?_
        refine aw_ret dX4_amount_50 rfl rfl ?_
        exact kk_c (k4 a ha rfl c18 c29') (by rw [hca]) (by rw [hca])
      · skip
        refine aw_bipush (-3) dX4_amount_32 rfl (by decide) ?_
        refine aw_ret dX4_amount_34 rfl rfl ?_
        exact k3 c5 c18 (Int32.not_le.mp c29)
    · skip
      refine aw_bipush (-2) dX4_amount_21 rfl (by decide) ?_
      refine aw_ret dX4_amount_23 rfl rfl ?_
      exact k2 c5 c18
  · skip
    refine aw_iconst (-1) dX4_amount_8 rfl (by decide) ?_
    refine aw_ret dX4_amount_9 rfl rfl ?_
    exact k1 c5
set_option maxRecDepth 4000 in
theorem sX4_washes {d : Nat} {σ : SS} {K : ax_K} {f t v : Int32}  (k1 : ¬ (lq f ∧ lq t) → K (some (-1)) σ) (k2 : lq f → lq t → ¬ (0 ≤ v ∧ v ≤ 3) → K (some (-2)) σ) (k3 : ∀ a b, a < 8 → b < 8 → f = nI a → t = nI b → (0 ≤ v ∧ v ≤ 3) → K (some (σ 43 0 (8 * a + b))) (rp σ 43 0 (upd (σ 43 0) (8 * a + b) v))) : AW (d + 2) mX4_washes 0 (ax_en mX4_washes [.inr (28, 0), .inl f, .inl t, .inl v]) [] σ K := by
  show AW _ mX4_washes 0 [_, _, _, _, _] _ _ _
  refine aw_iload_n dX4_washes_0 rfl rfl ?_
  refine aw_S1 (M' := mX4_isLiquid) dX4_washes_1 rfl lkX4_89 gX4_isLiquid (Nat.le_of_ble_eq_true rfl) (sX4_isLiquid ?_)
  show AW _ mX4_washes 4 _ (_ :: _) _ _
  refine aw_if_eqb (tgt := 14) dX4_washes_4 rfl rfl (fun c4 => ?_) (fun c4 => ?_)
  · skip
    refine aw_iconst (-1) dX4_washes_14 rfl (by decide) ?_
    refine aw_ret dX4_washes_15 rfl rfl ?_
    exact k1 (fun z => by first | exact c4 z.1 | exact c11 z.2)
  · skip
    refine aw_iload_n dX4_washes_7 rfl rfl ?_
    refine aw_S1 (M' := mX4_isLiquid) dX4_washes_8 rfl lkX4_89 gX4_isLiquid (Nat.le_of_ble_eq_true rfl) (sX4_isLiquid ?_)
    show AW _ mX4_washes 11 _ (_ :: _) _ _
    refine aw_if_neb (tgt := 16) dX4_washes_11 rfl rfl (fun c11 => ?_) (fun c11 => ?_)
    · skip
      refine aw_iload_n dX4_washes_16 rfl rfl ?_
      refine aw_iconst 0 dX4_washes_17 rfl (by decide) ?_
      refine aw_iconst 3 dX4_washes_18 rfl (by decide) ?_
      refine aw_S3 (M' := mX4_within) dX4_washes_19 rfl lkX4_71 gX4_within (Nat.le_of_ble_eq_true rfl) (sX4_within ?_)
      show AW _ mX4_washes 22 _ (_ :: _) _ _
      refine aw_if_neb (tgt := 28) dX4_washes_22 rfl rfl (fun c22 => ?_) (fun c22 => ?_)
      · skip
        obtain ⟨a, ha, rfl⟩ := lq_of c4
        obtain ⟨b, hb, rfl⟩ := lq_of c11
        have hca : (nI (8 * a + b)).toNatClampNeg = 8 * a + b := nI_clamp (by omega)
        refine aw_aload_n dX4_washes_28 rfl rfl ?_
        refine aw_getR dX4_washes_29 rfl rfl rfl (by decide) flX4_52 ?_
        refine aw_bipush 8 dX4_washes_32 rfl (by decide) ?_
        refine aw_iload_n dX4_washes_34 rfl rfl ?_
        refine aw_imul dX4_washes_35 rfl ?_
        refine aw_iload_n dX4_washes_36 rfl rfl ?_
        refine aw_iadd dX4_washes_37 rfl ?_
        refine aw_iald dX4_washes_38 rfl rfl (by rw [ix8]; exact vp_in_nI (by omega) (by omega)) ?_
        refine aw_istore dX4_washes_39 rfl (by decide) ?_
        show AW _ mX4_washes 41 [_, _, _, _, _] _ _ _
        refine aw_aload_n dX4_washes_41 rfl rfl ?_
        refine aw_getR dX4_washes_42 rfl rfl rfl (by decide) flX4_52 ?_
        refine aw_bipush 8 dX4_washes_45 rfl (by decide) ?_
        refine aw_iload_n dX4_washes_47 rfl rfl ?_
        refine aw_imul dX4_washes_48 rfl ?_
        refine aw_iload_n dX4_washes_49 rfl rfl ?_
        refine aw_iadd dX4_washes_50 rfl ?_
        refine aw_iload_n dX4_washes_51 rfl rfl ?_
        refine aw_iast dX4_washes_52 rfl rfl (by rw [ix8]; exact vp_in_nI (by omega) (by omega)) ?_
        refine aw_iload dX4_washes_53 rfl rfl ?_
        refine aw_ret dX4_washes_55 rfl rfl ?_
        exact kk_c (k3 a b ha hb rfl rfl c22) (by rw [ix8, hca]) (by rw [ix8, hca])
      · skip
        refine aw_bipush (-2) dX4_washes_25 rfl (by decide) ?_
        refine aw_ret dX4_washes_27 rfl rfl ?_
        exact k2 c4 c11 c22
    · skip
      refine aw_iconst (-1) dX4_washes_14 rfl (by decide) ?_
      refine aw_ret dX4_washes_15 rfl rfl ?_
      exact k1 (fun z => by first | exact c4 z.1 | exact c11 z.2)
set_option maxRecDepth 4000 in
theorem sX4_bound {d : Nat} {σ : SS} {K : ax_K} {v : Int32}  (k1 : ¬ (0 ≤ v ∧ v ≤ 9999) → K (some (-2)) σ) (k2 : (0 ≤ v ∧ v ≤ 9999) → K (some (σ 28 0 17)) (rp σ 28 0 (upd (σ 28 0) 17 v))) : AW (d + 1) mX4_bound 0 (ax_en mX4_bound [.inr (28, 0), .inl v]) [] σ K := by
  show AW _ mX4_bound 0 [_, _, _] _ _ _
  refine aw_iload_n dX4_bound_0 rfl rfl ?_
  refine aw_iconst 0 dX4_bound_1 rfl (by decide) ?_
  refine aw_sipush 9999 dX4_bound_2 rfl (by decide) ?_
  refine aw_S3 (M' := mX4_within) dX4_bound_5 rfl lkX4_71 gX4_within (Nat.le_of_ble_eq_true rfl) (sX4_within ?_)
  show AW _ mX4_bound 8 _ (_ :: _) _ _
  refine aw_if_neb (tgt := 14) dX4_bound_8 rfl rfl (fun c8 => ?_) (fun c8 => ?_)
  · skip
    refine aw_aload_n dX4_bound_14 rfl rfl ?_
    refine aw_getI dX4_bound_15 rfl rfl rfl flX4_55 ?_
    refine aw_istore_n dX4_bound_18 rfl (by decide) ?_
    show AW _ mX4_bound 19 [_, _, _] _ _ _
    refine aw_aload_n dX4_bound_19 rfl rfl ?_
    refine aw_iload_n dX4_bound_20 rfl rfl ?_
    refine aw_putI dX4_bound_21 rfl rfl rfl flX4_55 (pf_4_17 _) ?_
    refine aw_iload_n dX4_bound_24 rfl rfl ?_
    refine aw_ret dX4_bound_25 rfl rfl ?_
    exact k2 c8
  · skip
    refine aw_bipush (-2) dX4_bound_11 rfl (by decide) ?_
    refine aw_ret dX4_bound_13 rfl rfl ?_
    exact k1 c8
set_option maxRecDepth 4000 in
theorem sX4_ofTank {d : Nat} {σ : SS} {K : ax_K} {t w : Int32} {n : Nat} (hn : n ≤ 6) (h0 : σ 28 0 0 = nI n) (k1 : ¬ ixn t n → K (some (-1)) σ) (k2 : ixn t n → (∀ j, j < 9 → w ≠ nI j) → K (some (-2)) σ) (k3 : ∀ a, a < n → t = nI a → ∀ j, j < 9 → w = nI j → K (some (ofTankM σ a j)) σ) : AW (d + 2) mX4_ofTank 0 (ax_en mX4_ofTank [.inr (28, 0), .inl t, .inl w]) [] σ K := by
  show AW _ mX4_ofTank 0 [_, _, _] _ _ _
  refine aw_aload_n dX4_ofTank_0 rfl rfl ?_
  refine aw_iload_n dX4_ofTank_1 rfl rfl ?_
  refine aw_V1 (M' := mX4_isTank) dX4_ofTank_2 rfl lkX4_78 gX4_isTank rfl rfl (Nat.le_of_ble_eq_true rfl) (sX4_isTank hn h0 ?_)
  show AW _ mX4_ofTank 5 _ (_ :: _) _ _
  refine aw_if_neb (tgt := 10) dX4_ofTank_5 rfl rfl (fun c5 => ?_) (fun c5 => ?_)
  · skip
    have hin := c5
    obtain ⟨a, ha, rfl⟩ := ixn_of c5 (by omega)
    have hca : (nI a).toNatClampNeg = a := nI_clamp (by omega)
    refine aw_iload_n dX4_ofTank_10 rfl rfl ?_
    refine aw_tsw 9 dX4_ofTank_11 rfl (by decide) (by decide) (fun j hj sx => ?_) (fun sx => ?_)
    · match j, hj with
      | 0, _ =>
        refine AW.conv (pc := 60) ?_ rfl rfl rfl
        refine aw_aload_n dX4_ofTank_60 rfl rfl ?_
        refine aw_getR dX4_ofTank_61 rfl rfl rfl (by decide) flX4_7 ?_
        refine aw_iload_n dX4_ofTank_64 rfl rfl ?_
        refine aw_iald dX4_ofTank_65 rfl rfl (by first | exact vp_in_nI (by omega) (by omega) | decide) ?_
        refine aw_ret dX4_ofTank_66 rfl rfl ?_
        exact kk_c (k3 a ha rfl 0 (by decide) sx) (by simp only [ofTankM, hca]) rfl
      | 1, _ =>
        refine AW.conv (pc := 67) ?_ rfl rfl rfl
        refine aw_aload_n dX4_ofTank_67 rfl rfl ?_
        refine aw_getR dX4_ofTank_68 rfl rfl rfl (by decide) flX4_13 ?_
        refine aw_iload_n dX4_ofTank_71 rfl rfl ?_
        refine aw_iald dX4_ofTank_72 rfl rfl (by first | exact vp_in_nI (by omega) (by omega) | decide) ?_
        refine aw_ret dX4_ofTank_73 rfl rfl ?_
        exact kk_c (k3 a ha rfl 1 (by decide) sx) (by simp only [ofTankM, hca]) rfl
      | 2, _ =>
        refine AW.conv (pc := 74) ?_ rfl rfl rfl
        refine aw_aload_n dX4_ofTank_74 rfl rfl ?_
        refine aw_getR dX4_ofTank_75 rfl rfl rfl (by decide) flX4_16 ?_
        refine aw_iload_n dX4_ofTank_78 rfl rfl ?_
        refine aw_iald dX4_ofTank_79 rfl rfl (by first | exact vp_in_nI (by omega) (by omega) | decide) ?_
        refine aw_bipush 10 dX4_ofTank_80 rfl (by decide) ?_
        refine aw_iadd dX4_ofTank_82 rfl ?_
        refine aw_ret dX4_ofTank_83 rfl rfl ?_
        exact kk_c (k3 a ha rfl 2 (by decide) sx) (by simp only [ofTankM, hca]) rfl
      | 3, _ =>
        refine AW.conv (pc := 84) ?_ rfl rfl rfl
        refine aw_aload_n dX4_ofTank_84 rfl rfl ?_
        refine aw_getR dX4_ofTank_85 rfl rfl rfl (by decide) flX4_19 ?_
        refine aw_iload_n dX4_ofTank_88 rfl rfl ?_
        refine aw_iald dX4_ofTank_89 rfl rfl (by first | exact vp_in_nI (by omega) (by omega) | decide) ?_
        refine aw_ret dX4_ofTank_90 rfl rfl ?_
        exact kk_c (k3 a ha rfl 3 (by decide) sx) (by simp only [ofTankM, hca]) rfl
      | 4, _ =>
        refine AW.conv (pc := 91) ?_ rfl rfl rfl
        refine aw_aload_n dX4_ofTank_91 rfl rfl ?_
        refine aw_getR dX4_ofTank_92 rfl rfl rfl (by decide) flX4_22 ?_
        refine aw_iconst 3 dX4_ofTank_95 rfl (by decide) ?_
        refine aw_iload_n dX4_ofTank_96 rfl rfl ?_
        refine aw_imul dX4_ofTank_97 rfl ?_
        refine aw_iload_n dX4_ofTank_98 rfl rfl ?_
        refine aw_iadd dX4_ofTank_99 rfl ?_
        refine aw_iconst 4 dX4_ofTank_100 rfl (by decide) ?_
        refine aw_isub dX4_ofTank_101 rfl ?_
        refine aw_iald dX4_ofTank_102 rfl rfl (by rw [sx, ot4 (by decide)]; exact vp_in_nI (by omega) (by omega)) ?_
        refine aw_ret dX4_ofTank_103 rfl rfl ?_
        rw [sx, ot4 (by decide), nI_clamp (by omega)]
        first | exact kk_c (k3 a ha rfl 4 (by decide) sx) (by rw [ofTankM, show 3 * a + 4 - 4 = 3 * a by omega]) rfl | exact kk_c (k3 a ha rfl 5 (by decide) sx) (by rw [ofTankM, show 3 * a + 5 - 4 = 3 * a + 1 by omega]) rfl | exact kk_c (k3 a ha rfl 6 (by decide) sx) (by rw [ofTankM, show 3 * a + 6 - 4 = 3 * a + 2 by omega]) rfl
      | 5, _ =>
        refine AW.conv (pc := 91) ?_ rfl rfl rfl
        refine aw_aload_n dX4_ofTank_91 rfl rfl ?_
        refine aw_getR dX4_ofTank_92 rfl rfl rfl (by decide) flX4_22 ?_
        refine aw_iconst 3 dX4_ofTank_95 rfl (by decide) ?_
        refine aw_iload_n dX4_ofTank_96 rfl rfl ?_
        refine aw_imul dX4_ofTank_97 rfl ?_
        refine aw_iload_n dX4_ofTank_98 rfl rfl ?_
        refine aw_iadd dX4_ofTank_99 rfl ?_
        refine aw_iconst 4 dX4_ofTank_100 rfl (by decide) ?_
        refine aw_isub dX4_ofTank_101 rfl ?_
        refine aw_iald dX4_ofTank_102 rfl rfl (by rw [sx, ot4 (by decide)]; exact vp_in_nI (by omega) (by omega)) ?_
        refine aw_ret dX4_ofTank_103 rfl rfl ?_
        rw [sx, ot4 (by decide), nI_clamp (by omega)]
        first | exact kk_c (k3 a ha rfl 4 (by decide) sx) (by rw [ofTankM, show 3 * a + 4 - 4 = 3 * a by omega]) rfl | exact kk_c (k3 a ha rfl 5 (by decide) sx) (by rw [ofTankM, show 3 * a + 5 - 4 = 3 * a + 1 by omega]) rfl | exact kk_c (k3 a ha rfl 6 (by decide) sx) (by rw [ofTankM, show 3 * a + 6 - 4 = 3 * a + 2 by omega]) rfl
      | 6, _ =>
        refine AW.conv (pc := 91) ?_ rfl rfl rfl
        refine aw_aload_n dX4_ofTank_91 rfl rfl ?_
        refine aw_getR dX4_ofTank_92 rfl rfl rfl (by decide) flX4_22 ?_
        refine aw_iconst 3 dX4_ofTank_95 rfl (by decide) ?_
        refine aw_iload_n dX4_ofTank_96 rfl rfl ?_
        refine aw_imul dX4_ofTank_97 rfl ?_
        refine aw_iload_n dX4_ofTank_98 rfl rfl ?_
        refine aw_iadd dX4_ofTank_99 rfl ?_
        refine aw_iconst 4 dX4_ofTank_100 rfl (by decide) ?_
        refine aw_isub dX4_ofTank_101 rfl ?_
        refine aw_iald dX4_ofTank_102 rfl rfl (by rw [sx, ot4 (by decide)]; exact vp_in_nI (by omega) (by omega)) ?_
        refine aw_ret dX4_ofTank_103 rfl rfl ?_
        rw [sx, ot4 (by decide), nI_clamp (by omega)]
        first | exact kk_c (k3 a ha rfl 4 (by decide) sx) (by rw [ofTankM, show 3 * a + 4 - 4 = 3 * a by omega]) rfl | exact kk_c (k3 a ha rfl 5 (by decide) sx) (by rw [ofTankM, show 3 * a + 5 - 4 = 3 * a + 1 by omega]) rfl | exact kk_c (k3 a ha rfl 6 (by decide) sx) (by rw [ofTankM, show 3 * a + 6 - 4 = 3 * a + 2 by omega]) rfl
      | 7, _ =>
        refine AW.conv (pc := 104) ?_ rfl rfl rfl
        refine aw_aload_n dX4_ofTank_104 rfl rfl ?_
        refine aw_getR dX4_ofTank_105 rfl rfl rfl (by decide) flX4_28 ?_
        refine aw_iload_n dX4_ofTank_108 rfl rfl ?_
        refine aw_iald dX4_ofTank_109 rfl rfl (by first | exact vp_in_nI (by omega) (by omega) | decide) ?_
        refine aw_ret dX4_ofTank_110 rfl rfl ?_
        exact kk_c (k3 a ha rfl 7 (by decide) sx) (by simp only [ofTankM, hca]) rfl
      | 8, _ =>
        refine AW.conv (pc := 111) ?_ rfl rfl rfl
        refine aw_aload_n dX4_ofTank_111 rfl rfl ?_
        refine aw_getR dX4_ofTank_112 rfl rfl rfl (by decide) flX4_31 ?_
        refine aw_iload_n dX4_ofTank_115 rfl rfl ?_
        refine aw_iald dX4_ofTank_116 rfl rfl (by first | exact vp_in_nI (by omega) (by omega) | decide) ?_
        refine aw_ret dX4_ofTank_117 rfl rfl ?_
        exact kk_c (k3 a ha rfl 8 (by decide) sx) (by simp only [ofTankM, hca]) rfl
      | j + 9, hj => exact absurd hj (by omega)
    · refine AW.conv (pc := 118) ?_ rfl rfl rfl
      refine aw_bipush (-2) dX4_ofTank_118 rfl (by decide) ?_
      refine aw_ret dX4_ofTank_120 rfl rfl ?_
      exact k2 hin sx
  · skip
    refine aw_iconst (-1) dX4_ofTank_8 rfl (by decide) ?_
    refine aw_ret dX4_ofTank_9 rfl rfl ?_
    exact k1 c5
set_option maxRecDepth 4000 in
theorem sX4_doClash {d : Nat} {σ : SS} {K : ax_K} {c e : Nat} (hc : c < 4) (he : e < 4) (hK : K (some (bB (clB σ c e))) σ) : AW (d + 1) mX4_doClash 0 (ax_en mX4_doClash [.inr (28, 0), .inl (nI c), .inl (nI e)]) [] σ K := by
  have hcc : (nI c).toNatClampNeg = c := nI_clamp (by omega)
  have hce : (nI e).toNatClampNeg = e := nI_clamp (by omega)
  show AW _ mX4_doClash 0 [_, _, _] _ _ _
  refine aw_aload_n dX4_doClash_0 rfl rfl ?_
  refine aw_getR dX4_doClash_1 rfl rfl rfl (by decide) flX4_49 ?_
  refine aw_iload_n dX4_doClash_4 rfl rfl ?_
  refine aw_iald dX4_doClash_5 rfl rfl (by first | exact vp_in_nI (by omega) (by omega) | decide) ?_
  try simp only [hcc]
  try simp only [hce]
  refine aw_aload_n dX4_doClash_6 rfl rfl ?_
  refine aw_getR dX4_doClash_7 rfl rfl rfl (by decide) flX4_34 ?_
  refine aw_iload_n dX4_doClash_10 rfl rfl ?_
  refine aw_iald dX4_doClash_11 rfl rfl (by first | exact vp_in_nI (by omega) (by omega) | decide) ?_
  try simp only [hcc]
  try simp only [hce]
  refine aw_S2 (M' := mX4_has) dX4_doClash_12 rfl lkX4_86 gX4_has (Nat.le_of_ble_eq_true rfl) (sX4_has ?_)
  show AW _ mX4_doClash 15 _ (_ :: _) _ _
  refine aw_if_neB (tgt := 36) dX4_doClash_15 rfl rfl (fun c15 => ?_) (fun c15 => ?_)
  · skip
    refine aw_iconst 1 dX4_doClash_36 rfl (by decide) ?_
    refine aw_goto (q := 41) dX4_doClash_37 rfl ?_
    refine aw_ret dX4_doClash_41 rfl (by decide) ?_
    exact kk_c hK (by simp [clB, bB, c15]) rfl
  · skip
    refine aw_aload_n dX4_doClash_18 rfl rfl ?_
    refine aw_getR dX4_doClash_19 rfl rfl rfl (by decide) flX4_49 ?_
    refine aw_iload_n dX4_doClash_22 rfl rfl ?_
    refine aw_iald dX4_doClash_23 rfl rfl (by first | exact vp_in_nI (by omega) (by omega) | decide) ?_
    try simp only [hcc]
    try simp only [hce]
    refine aw_aload_n dX4_doClash_24 rfl rfl ?_
    refine aw_getR dX4_doClash_25 rfl rfl rfl (by decide) flX4_34 ?_
    refine aw_iload_n dX4_doClash_28 rfl rfl ?_
    refine aw_iald dX4_doClash_29 rfl rfl (by first | exact vp_in_nI (by omega) (by omega) | decide) ?_
    try simp only [hcc]
    try simp only [hce]
    refine aw_S2 (M' := mX4_has) dX4_doClash_30 rfl lkX4_86 gX4_has (Nat.le_of_ble_eq_true rfl) (sX4_has ?_)
    show AW _ mX4_doClash 33 _ (_ :: _) _ _
    refine aw_if_eqB (tgt := 40) dX4_doClash_33 rfl rfl (fun c33 => ?_) (fun c33 => ?_)
    · skip
      refine aw_iconst 0 dX4_doClash_40 rfl (by decide) ?_
      refine aw_ret dX4_doClash_41 rfl (by decide) ?_
      exact kk_c hK (by simp [clB, bB, c15, c33]) rfl
    · skip
      refine aw_iconst 1 dX4_doClash_36 rfl (by decide) ?_
      refine aw_goto (q := 41) dX4_doClash_37 rfl ?_
      refine aw_ret dX4_doClash_41 rfl (by decide) ?_
      exact kk_c hK (by simp [clB, bB, c15, c33]) rfl
set_option maxRecDepth 4000 in
theorem sX4_clashes {d : Nat} {σ : SS} {K : ax_K} {c : Nat} {cn : Nat} (hcc : c < 4) (hc : cn ≤ 4) (h9 : σ 28 0 9 = nI cn) (hK : K (some (setI cn (fun e => clB σ c e = true))) σ) : AW (d + 2) mX4_clashes 0 (ax_en mX4_clashes [.inr (28, 0), .inl (nI c)]) [] σ K := by
  show AW _ mX4_clashes 0 [_, _, _, _] _ _ _
  refine aw_iconst 0 dX4_clashes_0 rfl (by decide) ?_
  refine aw_istore_n dX4_clashes_1 rfl (by decide) ?_
  show AW _ mX4_clashes 2 [_, _, _, _] _ _ _
  refine aw_iconst 0 dX4_clashes_2 rfl (by decide) ?_
  refine aw_istore_n dX4_clashes_3 rfl (by decide) ?_
  show AW _ mX4_clashes 4 [_, _, _, _] _ _ _
  refine AW.conv (ax_loop (P := fun i => AW (d + 2) mX4_clashes 4 [some (.inr (28, 0)), some (.inl (nI c)), some (.inl (setI i (fun e => clB σ c e = true))), some (.inl (nI i))] [] σ K) cn ?_ ?_ 0 (Nat.zero_le _)) (by first | (simp only [nI_0]; done) | (simp only [nI_0]; rfl)) rfl rfl
  · try dsimp only
    refine aw_iload_n dX4_clashes_4 rfl rfl ?_
    refine aw_aload_n dX4_clashes_5 rfl rfl ?_
    refine aw_getI dX4_clashes_6 rfl rfl rfl flX4_92 ?_
    refine aw_icmp_ge (tgt := 37) dX4_clashes_9 rfl rfl (fun _ => ?_) (fun z => absurd (by rw [h9]; exact Int32.le_refl _) z)
    refine aw_iload_n dX4_clashes_37 rfl rfl ?_
    refine aw_ret dX4_clashes_38 rfl rfl ?_
    exact hK
  · intro i hi_4 nx_4
    try dsimp only at nx_4 ⊢
    refine aw_iload_n dX4_clashes_4 rfl rfl ?_
    refine aw_aload_n dX4_clashes_5 rfl rfl ?_
    refine aw_getI dX4_clashes_6 rfl rfl rfl flX4_92 ?_
    refine aw_icmp_ge (tgt := 37) dX4_clashes_9 rfl rfl (fun z => absurd z (by rw [h9]; exact nI_ge hi_4 (by omega))) (fun _ => ?_)
    refine aw_iload_n dX4_clashes_12 rfl rfl ?_
    refine aw_aload_n dX4_clashes_13 rfl rfl ?_
    refine aw_iload_n dX4_clashes_14 rfl rfl ?_
    refine aw_iload_n dX4_clashes_15 rfl rfl ?_
    refine aw_V2 (M' := mX4_doClash) dX4_clashes_16 rfl lkX4_105 gX4_doClash rfl rfl (Nat.le_of_ble_eq_true rfl) (sX4_doClash (by omega) (by omega) ?_)
    show AW _ mX4_clashes 19 _ (_ :: _) _ _
    refine aw_if_eqB (tgt := 28) dX4_clashes_19 rfl rfl (fun c19 => ?_) (fun c19 => ?_)
    · skip
      refine aw_iconst 0 dX4_clashes_28 rfl (by decide) ?_
      refine aw_ior dX4_clashes_29 rfl ?_
      refine aw_istore_n dX4_clashes_30 rfl (by decide) ?_
      show AW _ mX4_clashes 31 [_, _, _, _] _ _ _
      refine aw_iinc dX4_clashes_31 rfl rfl (ii_1 _) (by decide) ?_
      show AW _ mX4_clashes 34 [_, _, _, _] _ _ _
      refine aw_goto (q := 4) dX4_clashes_34 rfl ?_
      refine AW.conv nx_4 ?_ rfl rfl
      simp only [nI_succ, setI, lp_s]
      simp [hs, c19]
    · skip
      refine aw_iconst 1 dX4_clashes_22 rfl (by decide) ?_
      refine aw_iload_n dX4_clashes_23 rfl rfl ?_
      refine aw_ishl dX4_clashes_24 rfl ?_
      refine aw_goto (q := 29) dX4_clashes_25 rfl ?_
      refine aw_ior dX4_clashes_29 rfl ?_
      refine aw_istore_n dX4_clashes_30 rfl (by decide) ?_
      show AW _ mX4_clashes 31 [_, _, _, _] _ _ _
      refine aw_iinc dX4_clashes_31 rfl rfl (ii_1 _) (by decide) ?_
      show AW _ mX4_clashes 34 [_, _, _, _] _ _ _
      refine aw_goto (q := 4) dX4_clashes_34 rfl ?_
      refine AW.conv nx_4 ?_ rfl rfl
      simp only [nI_succ, setI, lp_s]
      simp [hs, c19]
set_option maxRecDepth 4000 in
theorem sX4_washesFor {d : Nat} {σ : SS} {K : ax_K} {t c : Nat} (ht : t < 6) (hc : c < 4) (hl : lt9 (σ 33 0 (3 * t))) (hq : ∃ j, j < 8 ∧ σ 37 0 c = nI j) (hK : K (some (wf (σ 43 0) (σ 33 0 (3 * t)) (σ 37 0 c))) σ) : AW d mX4_washesFor 0 (ax_en mX4_washesFor [.inr (28, 0), .inl (nI t), .inl (nI c)]) [] σ K := by
  have hcc : (nI c).toNatClampNeg = c := nI_clamp (by omega)
  have hct : (nI (3 * t)).toNatClampNeg = 3 * t := nI_clamp (by omega)
  show AW _ mX4_washesFor 0 [_, _, _, _] _ _ _
  refine aw_aload_n dX4_washesFor_0 rfl rfl ?_
  refine aw_getR dX4_washesFor_1 rfl rfl rfl (by decide) flX4_22 ?_
  refine aw_iconst 3 dX4_washesFor_4 rfl (by decide) ?_
  refine aw_iload_n dX4_washesFor_5 rfl rfl ?_
  refine aw_imul dX4_washesFor_6 rfl ?_
  refine aw_iald dX4_washesFor_7 rfl rfl (by rw [ix30]; exact vp_in_nI (by omega) (by omega)) ?_
  try simp only [hcc]
  try simp only [ix30]
  try simp only [hct]
  refine aw_istore_n dX4_washesFor_8 rfl (by decide) ?_
  show AW _ mX4_washesFor 9 [_, _, _, _] _ _ _
  refine aw_iload_n dX4_washesFor_9 rfl rfl ?_
  refine aw_bipush (-9) dX4_washesFor_10 rfl (by decide) ?_
  refine aw_icmp_ne (tgt := 19) dX4_washesFor_12 rfl rfl (fun c12 => ?_) (fun c12 => ?_)
  · skip
    obtain ⟨a, ha, ea⟩ := hl.resolve_left c12
    obtain ⟨b, hb, eb⟩ := hq
    refine aw_aload_n dX4_washesFor_19 rfl rfl ?_
    refine aw_getR dX4_washesFor_20 rfl rfl rfl (by decide) flX4_52 ?_
    refine aw_bipush 8 dX4_washesFor_23 rfl (by decide) ?_
    refine aw_iload_n dX4_washesFor_25 rfl rfl ?_
    refine aw_imul dX4_washesFor_26 rfl ?_
    refine aw_aload_n dX4_washesFor_27 rfl rfl ?_
    refine aw_getR dX4_washesFor_28 rfl rfl rfl (by decide) flX4_34 ?_
    refine aw_iload_n dX4_washesFor_31 rfl rfl ?_
    refine aw_iald dX4_washesFor_32 rfl rfl (by first | exact vp_in_nI (by omega) (by omega) | decide) ?_
    try simp only [hcc]
    try simp only [ix30]
    try simp only [hct]
    refine aw_iadd dX4_washesFor_33 rfl ?_
    refine aw_iald dX4_washesFor_34 rfl rfl (by rw [ea, eb, ix8]; exact vp_in_nI (by omega) (by omega)) ?_
    try simp only [hcc]
    try simp only [ix30]
    try simp only [hct]
    refine aw_ret dX4_washesFor_35 rfl rfl ?_
    first | exact kk_c hK (by rw [wf, if_pos c12]) rfl | exact kk_c hK (by rw [wf, if_neg c12]) rfl
  · skip
    refine aw_iconst 0 dX4_washesFor_15 rfl (by decide) ?_
    refine aw_goto (q := 35) dX4_washesFor_16 rfl ?_
    refine aw_ret dX4_washesFor_35 rfl rfl ?_
    first | exact kk_c hK (by rw [wf, if_pos c12]) rfl | exact kk_c hK (by rw [wf, if_neg c12]) rfl
set_option maxRecDepth 4000 in
theorem sX4_whyNot {d : Nat} {σ : SS} {K : ax_K} {t c : Nat} (ht : t < 6) (hc : c < 4) (hK : K (some (whyM (σ 39 0 c) (σ 40 0 c) (σ 41 0 c) (σ 30 0 t) (fun k => σ 33 0 (3 * t + k)))) σ) : AW (d + 1) mX4_whyNot 0 (ax_en mX4_whyNot [.inr (28, 0), .inl (nI t), .inl (nI c)]) [] σ K := by
  have hcc : (nI c).toNatClampNeg = c := nI_clamp (by omega)
  have hct : (nI t).toNatClampNeg = t := nI_clamp (by omega)
  show AW _ mX4_whyNot 0 [_, _, _, _, _, _] _ _ _
  refine aw_aload_n dX4_whyNot_0 rfl rfl ?_
  refine aw_getR dX4_whyNot_1 rfl rfl rfl (by decide) flX4_40 ?_
  refine aw_iload_n dX4_whyNot_4 rfl rfl ?_
  refine aw_iald dX4_whyNot_5 rfl rfl (by first | exact vp_in_nI (by omega) (by omega) | decide) ?_
  try simp only [hcc]
  try simp only [hct]
  refine aw_aload_n dX4_whyNot_6 rfl rfl ?_
  refine aw_getR dX4_whyNot_7 rfl rfl rfl (by decide) flX4_13 ?_
  refine aw_iload_n dX4_whyNot_10 rfl rfl ?_
  refine aw_iald dX4_whyNot_11 rfl rfl (by first | exact vp_in_nI (by omega) (by omega) | decide) ?_
  try simp only [hcc]
  try simp only [hct]
  refine aw_S2 (M' := mX4_has) dX4_whyNot_12 rfl lkX4_86 gX4_has (Nat.le_of_ble_eq_true rfl) (sX4_has ?_)
  show AW _ mX4_whyNot 15 _ (_ :: _) _ _
  refine aw_if_eqB (tgt := 22) dX4_whyNot_15 rfl rfl (fun c15 => ?_) (fun c15 => ?_)
  · skip
    refine aw_iconst 1 dX4_whyNot_22 rfl (by decide) ?_
    refine aw_istore_n dX4_whyNot_23 rfl (by decide) ?_
    show AW _ mX4_whyNot 24 [_, _, _, _, _, _] _ _ _
    refine aw_iconst 0 dX4_whyNot_24 rfl (by decide) ?_
    refine aw_istore dX4_whyNot_25 rfl (by decide) ?_
    show AW _ mX4_whyNot 27 [_, _, _, _, _, _] _ _ _
    refine AW.conv (ax_loop (P := fun i => AW (d + 1) mX4_whyNot 27 [some (.inr (28, 0)), some (.inl (nI t)), some (.inl (nI c)), some (.inl (whyL (σ 39 0 c) (σ 40 0 c) (σ 41 0 c) (σ 30 0 t) (fun k => σ 33 0 (3 * t + k)) i)), some (.inl (nI i)), none] [] σ K) 3 ?_ ?_ 0 (Nat.zero_le _)) (by simp only [nI_0, whyL, lp_0]; simp [c15]) rfl rfl
    · try dsimp only
      refine aw_iload dX4_whyNot_27 rfl rfl ?_
      refine aw_iconst 3 dX4_whyNot_29 rfl (by decide) ?_
      refine aw_icmp_ge (tgt := 108) dX4_whyNot_30 rfl rfl (fun _ => ?_) (fun z => absurd (by decide) z)
      refine aw_iload_n dX4_whyNot_108 rfl rfl ?_
      refine aw_ret dX4_whyNot_109 rfl rfl ?_
      exact hK
    · intro i hi_27 nx_27
      try dsimp only at nx_27 ⊢
      have hc3 : (nI (3 * t + i)).toNatClampNeg = 3 * t + i := nI_clamp (by omega)
      refine aw_iload dX4_whyNot_27 rfl rfl ?_
      refine aw_iconst 3 dX4_whyNot_29 rfl (by decide) ?_
      refine aw_icmp_ge (tgt := 108) dX4_whyNot_30 rfl rfl (fun z => absurd z (nI_ge (b := 3) hi_27 (by omega))) (fun _ => ?_)
      refine aw_aload_n dX4_whyNot_33 rfl rfl ?_
      refine aw_getR dX4_whyNot_34 rfl rfl rfl (by decide) flX4_22 ?_
      refine aw_iconst 3 dX4_whyNot_37 rfl (by decide) ?_
      refine aw_iload_n dX4_whyNot_38 rfl rfl ?_
      refine aw_imul dX4_whyNot_39 rfl ?_
      refine aw_iload dX4_whyNot_40 rfl rfl ?_
      refine aw_iadd dX4_whyNot_42 rfl ?_
      refine aw_iald dX4_whyNot_43 rfl rfl (by rw [ix3]; exact vp_in_nI (by omega) (by omega)) ?_
      try simp only [hcc]
      try simp only [hct]
      rw [ix3, hc3]
      refine aw_istore dX4_whyNot_44 rfl (by decide) ?_
      show AW _ mX4_whyNot 46 [_, _, _, _, _, _] _ _ _
      refine aw_iload dX4_whyNot_46 rfl rfl ?_
      refine aw_bipush (-9) dX4_whyNot_48 rfl (by decide) ?_
      refine aw_icmp_eq (tgt := 102) dX4_whyNot_50 rfl rfl (fun c50 => ?_) (fun c50 => ?_)
      · skip
        refine aw_iinc dX4_whyNot_102 rfl rfl (ii_1 _) (by decide) ?_
        show AW _ mX4_whyNot 105 [_, _, _, _, _, _] _ _ _
        refine aw_goto (q := 27) dX4_whyNot_105 rfl ?_
        refine AW.conv (AW.forget nx_27 (ls := [some (.inr (28, 0)), some (.inl (nI t)), some (.inl (nI c)), some (.inl (whyL (σ 39 0 c) (σ 40 0 c) (σ 41 0 c) (σ 30 0 t) (fun k => σ 33 0 (3 * t + k)) (i + 1))), some (.inl (nI (i + 1))), some (.inl (σ 33 0 (3 * t + i)))]) (fun n v h => by
          match n, h with
          | 0, h => exact h
          | 1, h => exact h
          | 2, h => exact h
          | 3, h => exact h
          | 4, h => exact h
          | 5, h => cases h
          | n + 6, h => simp at h)) ?_ rfl rfl
        simp only [nI_succ, whyL, lp_s]
        simp [hs, c50]
      · skip
        refine aw_iload_n dX4_whyNot_53 rfl rfl ?_
        refine aw_iload dX4_whyNot_54 rfl rfl ?_
        refine aw_if_ne (tgt := 77) dX4_whyNot_56 rfl rfl (fun c56 => ?_) (fun c56 => ?_)
        · skip
          refine aw_iconst 0 dX4_whyNot_77 rfl (by decide) ?_
          refine aw_ior dX4_whyNot_78 rfl ?_
          refine aw_istore_n dX4_whyNot_79 rfl (by decide) ?_
          show AW _ mX4_whyNot 80 [_, _, _, _, _, _] _ _ _
          refine aw_iload_n dX4_whyNot_80 rfl rfl ?_
          refine aw_aload_n dX4_whyNot_81 rfl rfl ?_
          refine aw_getR dX4_whyNot_82 rfl rfl rfl (by decide) flX4_46 ?_
          refine aw_iload_n dX4_whyNot_85 rfl rfl ?_
          refine aw_iald dX4_whyNot_86 rfl rfl (by first | exact vp_in_nI (by omega) (by omega) | decide) ?_
          try simp only [hcc]
          try simp only [hct]
          refine aw_iload dX4_whyNot_87 rfl rfl ?_
          refine aw_S2 (M' := mX4_has) dX4_whyNot_89 rfl lkX4_86 gX4_has (Nat.le_of_ble_eq_true rfl) (sX4_has ?_)
          show AW _ mX4_whyNot 92 _ (_ :: _) _ _
          refine aw_if_eqB (tgt := 99) dX4_whyNot_92 rfl rfl (fun c92 => ?_) (fun c92 => ?_)
          · skip
            refine aw_iconst 0 dX4_whyNot_99 rfl (by decide) ?_
            refine aw_ior dX4_whyNot_100 rfl ?_
            refine aw_istore_n dX4_whyNot_101 rfl (by decide) ?_
            show AW _ mX4_whyNot 102 [_, _, _, _, _, _] _ _ _
            refine aw_iinc dX4_whyNot_102 rfl rfl (ii_1 _) (by decide) ?_
            show AW _ mX4_whyNot 105 [_, _, _, _, _, _] _ _ _
            refine aw_goto (q := 27) dX4_whyNot_105 rfl ?_
            refine AW.conv (AW.forget nx_27 (ls := [some (.inr (28, 0)), some (.inl (nI t)), some (.inl (nI c)), some (.inl (whyL (σ 39 0 c) (σ 40 0 c) (σ 41 0 c) (σ 30 0 t) (fun k => σ 33 0 (3 * t + k)) (i + 1))), some (.inl (nI (i + 1))), some (.inl (σ 33 0 (3 * t + i)))]) (fun n v h => by
              match n, h with
              | 0, h => exact h
              | 1, h => exact h
              | 2, h => exact h
              | 3, h => exact h
              | 4, h => exact h
              | 5, h => cases h
              | n + 6, h => simp at h)) ?_ rfl rfl
            simp only [nI_succ, whyL, lp_s]
            simp [hs, c50, c56, c92]
          · skip
            refine aw_iconst 4 dX4_whyNot_95 rfl (by decide) ?_
            refine aw_goto (q := 100) dX4_whyNot_96 rfl ?_
            refine aw_ior dX4_whyNot_100 rfl ?_
            refine aw_istore_n dX4_whyNot_101 rfl (by decide) ?_
            show AW _ mX4_whyNot 102 [_, _, _, _, _, _] _ _ _
            refine aw_iinc dX4_whyNot_102 rfl rfl (ii_1 _) (by decide) ?_
            show AW _ mX4_whyNot 105 [_, _, _, _, _, _] _ _ _
            refine aw_goto (q := 27) dX4_whyNot_105 rfl ?_
            refine AW.conv (AW.forget nx_27 (ls := [some (.inr (28, 0)), some (.inl (nI t)), some (.inl (nI c)), some (.inl (whyL (σ 39 0 c) (σ 40 0 c) (σ 41 0 c) (σ 30 0 t) (fun k => σ 33 0 (3 * t + k)) (i + 1))), some (.inl (nI (i + 1))), some (.inl (σ 33 0 (3 * t + i)))]) (fun n v h => by
              match n, h with
              | 0, h => exact h
              | 1, h => exact h
              | 2, h => exact h
              | 3, h => exact h
              | 4, h => exact h
              | 5, h => cases h
              | n + 6, h => simp at h)) ?_ rfl rfl
            simp only [nI_succ, whyL, lp_s]
            simp [hs, c50, c56, c92]
        · skip
          refine aw_aload_n dX4_whyNot_59 rfl rfl ?_
          refine aw_getR dX4_whyNot_60 rfl rfl rfl (by decide) flX4_43 ?_
          refine aw_iload_n dX4_whyNot_63 rfl rfl ?_
          refine aw_iald dX4_whyNot_64 rfl rfl (by first | exact vp_in_nI (by omega) (by omega) | decide) ?_
          try simp only [hcc]
          try simp only [hct]
          refine aw_iload dX4_whyNot_65 rfl rfl ?_
          refine aw_S2 (M' := mX4_has) dX4_whyNot_67 rfl lkX4_86 gX4_has (Nat.le_of_ble_eq_true rfl) (sX4_has ?_)
          show AW _ mX4_whyNot 70 _ (_ :: _) _ _
          refine aw_if_eqB (tgt := 77) dX4_whyNot_70 rfl rfl (fun c70 => ?_) (fun c70 => ?_)
          · skip
            refine aw_iconst 0 dX4_whyNot_77 rfl (by decide) ?_
            refine aw_ior dX4_whyNot_78 rfl ?_
            refine aw_istore_n dX4_whyNot_79 rfl (by decide) ?_
            show AW _ mX4_whyNot 80 [_, _, _, _, _, _] _ _ _
            refine aw_iload_n dX4_whyNot_80 rfl rfl ?_
            refine aw_aload_n dX4_whyNot_81 rfl rfl ?_
            refine aw_getR dX4_whyNot_82 rfl rfl rfl (by decide) flX4_46 ?_
            refine aw_iload_n dX4_whyNot_85 rfl rfl ?_
            refine aw_iald dX4_whyNot_86 rfl rfl (by first | exact vp_in_nI (by omega) (by omega) | decide) ?_
            try simp only [hcc]
            try simp only [hct]
            refine aw_iload dX4_whyNot_87 rfl rfl ?_
            refine aw_S2 (M' := mX4_has) dX4_whyNot_89 rfl lkX4_86 gX4_has (Nat.le_of_ble_eq_true rfl) (sX4_has ?_)
            show AW _ mX4_whyNot 92 _ (_ :: _) _ _
            refine aw_if_eqB (tgt := 99) dX4_whyNot_92 rfl rfl (fun c92 => ?_) (fun c92 => ?_)
            · skip
              refine aw_iconst 0 dX4_whyNot_99 rfl (by decide) ?_
              refine aw_ior dX4_whyNot_100 rfl ?_
              refine aw_istore_n dX4_whyNot_101 rfl (by decide) ?_
              show AW _ mX4_whyNot 102 [_, _, _, _, _, _] _ _ _
              refine aw_iinc dX4_whyNot_102 rfl rfl (ii_1 _) (by decide) ?_
              show AW _ mX4_whyNot 105 [_, _, _, _, _, _] _ _ _
              refine aw_goto (q := 27) dX4_whyNot_105 rfl ?_
              refine AW.conv (AW.forget nx_27 (ls := [some (.inr (28, 0)), some (.inl (nI t)), some (.inl (nI c)), some (.inl (whyL (σ 39 0 c) (σ 40 0 c) (σ 41 0 c) (σ 30 0 t) (fun k => σ 33 0 (3 * t + k)) (i + 1))), some (.inl (nI (i + 1))), some (.inl (σ 33 0 (3 * t + i)))]) (fun n v h => by
                match n, h with
                | 0, h => exact h
                | 1, h => exact h
                | 2, h => exact h
                | 3, h => exact h
                | 4, h => exact h
                | 5, h => cases h
                | n + 6, h => simp at h)) ?_ rfl rfl
              simp only [nI_succ, whyL, lp_s]
              simp [hs, c50, c56, c70, c92]
            · skip
              refine aw_iconst 4 dX4_whyNot_95 rfl (by decide) ?_
              refine aw_goto (q := 100) dX4_whyNot_96 rfl ?_
              refine aw_ior dX4_whyNot_100 rfl ?_
              refine aw_istore_n dX4_whyNot_101 rfl (by decide) ?_
              show AW _ mX4_whyNot 102 [_, _, _, _, _, _] _ _ _
              refine aw_iinc dX4_whyNot_102 rfl rfl (ii_1 _) (by decide) ?_
              show AW _ mX4_whyNot 105 [_, _, _, _, _, _] _ _ _
              refine aw_goto (q := 27) dX4_whyNot_105 rfl ?_
              refine AW.conv (AW.forget nx_27 (ls := [some (.inr (28, 0)), some (.inl (nI t)), some (.inl (nI c)), some (.inl (whyL (σ 39 0 c) (σ 40 0 c) (σ 41 0 c) (σ 30 0 t) (fun k => σ 33 0 (3 * t + k)) (i + 1))), some (.inl (nI (i + 1))), some (.inl (σ 33 0 (3 * t + i)))]) (fun n v h => by
                match n, h with
                | 0, h => exact h
                | 1, h => exact h
                | 2, h => exact h
                | 3, h => exact h
                | 4, h => exact h
                | 5, h => cases h
                | n + 6, h => simp at h)) ?_ rfl rfl
              simp only [nI_succ, whyL, lp_s]
              simp [hs, c50, c56, c70, c92]
          · skip
            refine aw_iconst 2 dX4_whyNot_73 rfl (by decide) ?_
            refine aw_goto (q := 78) dX4_whyNot_74 rfl ?_
            refine aw_ior dX4_whyNot_78 rfl ?_
            refine aw_istore_n dX4_whyNot_79 rfl (by decide) ?_
            show AW _ mX4_whyNot 80 [_, _, _, _, _, _] _ _ _
            refine aw_iload_n dX4_whyNot_80 rfl rfl ?_
            refine aw_aload_n dX4_whyNot_81 rfl rfl ?_
            refine aw_getR dX4_whyNot_82 rfl rfl rfl (by decide) flX4_46 ?_
            refine aw_iload_n dX4_whyNot_85 rfl rfl ?_
            refine aw_iald dX4_whyNot_86 rfl rfl (by first | exact vp_in_nI (by omega) (by omega) | decide) ?_
            try simp only [hcc]
            try simp only [hct]
            refine aw_iload dX4_whyNot_87 rfl rfl ?_
            refine aw_S2 (M' := mX4_has) dX4_whyNot_89 rfl lkX4_86 gX4_has (Nat.le_of_ble_eq_true rfl) (sX4_has ?_)
            show AW _ mX4_whyNot 92 _ (_ :: _) _ _
            refine aw_if_eqB (tgt := 99) dX4_whyNot_92 rfl rfl (fun c92 => ?_) (fun c92 => ?_)
            · skip
              refine aw_iconst 0 dX4_whyNot_99 rfl (by decide) ?_
              refine aw_ior dX4_whyNot_100 rfl ?_
              refine aw_istore_n dX4_whyNot_101 rfl (by decide) ?_
              show AW _ mX4_whyNot 102 [_, _, _, _, _, _] _ _ _
              refine aw_iinc dX4_whyNot_102 rfl rfl (ii_1 _) (by decide) ?_
              show AW _ mX4_whyNot 105 [_, _, _, _, _, _] _ _ _
              refine aw_goto (q := 27) dX4_whyNot_105 rfl ?_
              refine AW.conv (AW.forget nx_27 (ls := [some (.inr (28, 0)), some (.inl (nI t)), some (.inl (nI c)), some (.inl (whyL (σ 39 0 c) (σ 40 0 c) (σ 41 0 c) (σ 30 0 t) (fun k => σ 33 0 (3 * t + k)) (i + 1))), some (.inl (nI (i + 1))), some (.inl (σ 33 0 (3 * t + i)))]) (fun n v h => by
                match n, h with
                | 0, h => exact h
                | 1, h => exact h
                | 2, h => exact h
                | 3, h => exact h
                | 4, h => exact h
                | 5, h => cases h
                | n + 6, h => simp at h)) ?_ rfl rfl
              simp only [nI_succ, whyL, lp_s]
              simp [hs, c50, c56, c70, c92]
            · skip
              refine aw_iconst 4 dX4_whyNot_95 rfl (by decide) ?_
              refine aw_goto (q := 100) dX4_whyNot_96 rfl ?_
              refine aw_ior dX4_whyNot_100 rfl ?_
              refine aw_istore_n dX4_whyNot_101 rfl (by decide) ?_
              show AW _ mX4_whyNot 102 [_, _, _, _, _, _] _ _ _
              refine aw_iinc dX4_whyNot_102 rfl rfl (ii_1 _) (by decide) ?_
              show AW _ mX4_whyNot 105 [_, _, _, _, _, _] _ _ _
              refine aw_goto (q := 27) dX4_whyNot_105 rfl ?_
              refine AW.conv (AW.forget nx_27 (ls := [some (.inr (28, 0)), some (.inl (nI t)), some (.inl (nI c)), some (.inl (whyL (σ 39 0 c) (σ 40 0 c) (σ 41 0 c) (σ 30 0 t) (fun k => σ 33 0 (3 * t + k)) (i + 1))), some (.inl (nI (i + 1))), some (.inl (σ 33 0 (3 * t + i)))]) (fun n v h => by
                match n, h with
                | 0, h => exact h
                | 1, h => exact h
                | 2, h => exact h
                | 3, h => exact h
                | 4, h => exact h
                | 5, h => cases h
                | n + 6, h => simp at h)) ?_ rfl rfl
              simp only [nI_succ, whyL, lp_s]
              simp [hs, c50, c56, c70, c92]
  · skip
    refine aw_iconst 0 dX4_whyNot_18 rfl (by decide) ?_
    refine aw_goto (q := 23) dX4_whyNot_19 rfl ?_
    refine aw_istore_n dX4_whyNot_23 rfl (by decide) ?_
    show AW _ mX4_whyNot 24 [_, _, _, _, _, _] _ _ _
    refine aw_iconst 0 dX4_whyNot_24 rfl (by decide) ?_
    refine aw_istore dX4_whyNot_25 rfl (by decide) ?_
    show AW _ mX4_whyNot 27 [_, _, _, _, _, _] _ _ _
    refine AW.conv (ax_loop (P := fun i => AW (d + 1) mX4_whyNot 27 [some (.inr (28, 0)), some (.inl (nI t)), some (.inl (nI c)), some (.inl (whyL (σ 39 0 c) (σ 40 0 c) (σ 41 0 c) (σ 30 0 t) (fun k => σ 33 0 (3 * t + k)) i)), some (.inl (nI i)), none] [] σ K) 3 ?_ ?_ 0 (Nat.zero_le _)) (by simp only [nI_0, whyL, lp_0]; simp [c15]) rfl rfl
    · try dsimp only
      refine aw_iload dX4_whyNot_27 rfl rfl ?_
      refine aw_iconst 3 dX4_whyNot_29 rfl (by decide) ?_
      refine aw_icmp_ge (tgt := 108) dX4_whyNot_30 rfl rfl (fun _ => ?_) (fun z => absurd (by decide) z)
      refine aw_iload_n dX4_whyNot_108 rfl rfl ?_
      refine aw_ret dX4_whyNot_109 rfl rfl ?_
      exact hK
    · intro i hi_27 nx_27
      try dsimp only at nx_27 ⊢
      have hc3 : (nI (3 * t + i)).toNatClampNeg = 3 * t + i := nI_clamp (by omega)
      refine aw_iload dX4_whyNot_27 rfl rfl ?_
      refine aw_iconst 3 dX4_whyNot_29 rfl (by decide) ?_
      refine aw_icmp_ge (tgt := 108) dX4_whyNot_30 rfl rfl (fun z => absurd z (nI_ge (b := 3) hi_27 (by omega))) (fun _ => ?_)
      refine aw_aload_n dX4_whyNot_33 rfl rfl ?_
      refine aw_getR dX4_whyNot_34 rfl rfl rfl (by decide) flX4_22 ?_
      refine aw_iconst 3 dX4_whyNot_37 rfl (by decide) ?_
      refine aw_iload_n dX4_whyNot_38 rfl rfl ?_
      refine aw_imul dX4_whyNot_39 rfl ?_
      refine aw_iload dX4_whyNot_40 rfl rfl ?_
      refine aw_iadd dX4_whyNot_42 rfl ?_
      refine aw_iald dX4_whyNot_43 rfl rfl (by rw [ix3]; exact vp_in_nI (by omega) (by omega)) ?_
      try simp only [hcc]
      try simp only [hct]
      rw [ix3, hc3]
      refine aw_istore dX4_whyNot_44 rfl (by decide) ?_
      show AW _ mX4_whyNot 46 [_, _, _, _, _, _] _ _ _
      refine aw_iload dX4_whyNot_46 rfl rfl ?_
      refine aw_bipush (-9) dX4_whyNot_48 rfl (by decide) ?_
      refine aw_icmp_eq (tgt := 102) dX4_whyNot_50 rfl rfl (fun c50 => ?_) (fun c50 => ?_)
      · skip
        refine aw_iinc dX4_whyNot_102 rfl rfl (ii_1 _) (by decide) ?_
        show AW _ mX4_whyNot 105 [_, _, _, _, _, _] _ _ _
        refine aw_goto (q := 27) dX4_whyNot_105 rfl ?_
        refine AW.conv (AW.forget nx_27 (ls := [some (.inr (28, 0)), some (.inl (nI t)), some (.inl (nI c)), some (.inl (whyL (σ 39 0 c) (σ 40 0 c) (σ 41 0 c) (σ 30 0 t) (fun k => σ 33 0 (3 * t + k)) (i + 1))), some (.inl (nI (i + 1))), some (.inl (σ 33 0 (3 * t + i)))]) (fun n v h => by
          match n, h with
          | 0, h => exact h
          | 1, h => exact h
          | 2, h => exact h
          | 3, h => exact h
          | 4, h => exact h
          | 5, h => cases h
          | n + 6, h => simp at h)) ?_ rfl rfl
        simp only [nI_succ, whyL, lp_s]
        simp [hs, c50]
      · skip
        refine aw_iload_n dX4_whyNot_53 rfl rfl ?_
        refine aw_iload dX4_whyNot_54 rfl rfl ?_
        refine aw_if_ne (tgt := 77) dX4_whyNot_56 rfl rfl (fun c56 => ?_) (fun c56 => ?_)
        · skip
          refine aw_iconst 0 dX4_whyNot_77 rfl (by decide) ?_
          refine aw_ior dX4_whyNot_78 rfl ?_
          refine aw_istore_n dX4_whyNot_79 rfl (by decide) ?_
          show AW _ mX4_whyNot 80 [_, _, _, _, _, _] _ _ _
          refine aw_iload_n dX4_whyNot_80 rfl rfl ?_
          refine aw_aload_n dX4_whyNot_81 rfl rfl ?_
          refine aw_getR dX4_whyNot_82 rfl rfl rfl (by decide) flX4_46 ?_
          refine aw_iload_n dX4_whyNot_85 rfl rfl ?_
          refine aw_iald dX4_whyNot_86 rfl rfl (by first | exact vp_in_nI (by omega) (by omega) | decide) ?_
          try simp only [hcc]
          try simp only [hct]
          refine aw_iload dX4_whyNot_87 rfl rfl ?_
          refine aw_S2 (M' := mX4_has) dX4_whyNot_89 rfl lkX4_86 gX4_has (Nat.le_of_ble_eq_true rfl) (sX4_has ?_)
          show AW _ mX4_whyNot 92 _ (_ :: _) _ _
          refine aw_if_eqB (tgt := 99) dX4_whyNot_92 rfl rfl (fun c92 => ?_) (fun c92 => ?_)
          · skip
            refine aw_iconst 0 dX4_whyNot_99 rfl (by decide) ?_
            refine aw_ior dX4_whyNot_100 rfl ?_
            refine aw_istore_n dX4_whyNot_101 rfl (by decide) ?_
            show AW _ mX4_whyNot 102 [_, _, _, _, _, _] _ _ _
            refine aw_iinc dX4_whyNot_102 rfl rfl (ii_1 _) (by decide) ?_
            show AW _ mX4_whyNot 105 [_, _, _, _, _, _] _ _ _
            refine aw_goto (q := 27) dX4_whyNot_105 rfl ?_
            refine AW.conv (AW.forget nx_27 (ls := [some (.inr (28, 0)), some (.inl (nI t)), some (.inl (nI c)), some (.inl (whyL (σ 39 0 c) (σ 40 0 c) (σ 41 0 c) (σ 30 0 t) (fun k => σ 33 0 (3 * t + k)) (i + 1))), some (.inl (nI (i + 1))), some (.inl (σ 33 0 (3 * t + i)))]) (fun n v h => by
              match n, h with
              | 0, h => exact h
              | 1, h => exact h
              | 2, h => exact h
              | 3, h => exact h
              | 4, h => exact h
              | 5, h => cases h
              | n + 6, h => simp at h)) ?_ rfl rfl
            simp only [nI_succ, whyL, lp_s]
            simp [hs, c50, c56, c92]
          · skip
            refine aw_iconst 4 dX4_whyNot_95 rfl (by decide) ?_
            refine aw_goto (q := 100) dX4_whyNot_96 rfl ?_
            refine aw_ior dX4_whyNot_100 rfl ?_
            refine aw_istore_n dX4_whyNot_101 rfl (by decide) ?_
            show AW _ mX4_whyNot 102 [_, _, _, _, _, _] _ _ _
            refine aw_iinc dX4_whyNot_102 rfl rfl (ii_1 _) (by decide) ?_
            show AW _ mX4_whyNot 105 [_, _, _, _, _, _] _ _ _
            refine aw_goto (q := 27) dX4_whyNot_105 rfl ?_
            refine AW.conv (AW.forget nx_27 (ls := [some (.inr (28, 0)), some (.inl (nI t)), some (.inl (nI c)), some (.inl (whyL (σ 39 0 c) (σ 40 0 c) (σ 41 0 c) (σ 30 0 t) (fun k => σ 33 0 (3 * t + k)) (i + 1))), some (.inl (nI (i + 1))), some (.inl (σ 33 0 (3 * t + i)))]) (fun n v h => by
              match n, h with
              | 0, h => exact h
              | 1, h => exact h
              | 2, h => exact h
              | 3, h => exact h
              | 4, h => exact h
              | 5, h => cases h
              | n + 6, h => simp at h)) ?_ rfl rfl
            simp only [nI_succ, whyL, lp_s]
            simp [hs, c50, c56, c92]
        · skip
          refine aw_aload_n dX4_whyNot_59 rfl rfl ?_
          refine aw_getR dX4_whyNot_60 rfl rfl rfl (by decide) flX4_43 ?_
          refine aw_iload_n dX4_whyNot_63 rfl rfl ?_
          refine aw_iald dX4_whyNot_64 rfl rfl (by first | exact vp_in_nI (by omega) (by omega) | decide) ?_
          try simp only [hcc]
          try simp only [hct]
          refine aw_iload dX4_whyNot_65 rfl rfl ?_
          refine aw_S2 (M' := mX4_has) dX4_whyNot_67 rfl lkX4_86 gX4_has (Nat.le_of_ble_eq_true rfl) (sX4_has ?_)
          show AW _ mX4_whyNot 70 _ (_ :: _) _ _
          refine aw_if_eqB (tgt := 77) dX4_whyNot_70 rfl rfl (fun c70 => ?_) (fun c70 => ?_)
          · skip
            refine aw_iconst 0 dX4_whyNot_77 rfl (by decide) ?_
            refine aw_ior dX4_whyNot_78 rfl ?_
            refine aw_istore_n dX4_whyNot_79 rfl (by decide) ?_
            show AW _ mX4_whyNot 80 [_, _, _, _, _, _] _ _ _
            refine aw_iload_n dX4_whyNot_80 rfl rfl ?_
            refine aw_aload_n dX4_whyNot_81 rfl rfl ?_
            refine aw_getR dX4_whyNot_82 rfl rfl rfl (by decide) flX4_46 ?_
            refine aw_iload_n dX4_whyNot_85 rfl rfl ?_
            refine aw_iald dX4_whyNot_86 rfl rfl (by first | exact vp_in_nI (by omega) (by omega) | decide) ?_
            try simp only [hcc]
            try simp only [hct]
            refine aw_iload dX4_whyNot_87 rfl rfl ?_
            refine aw_S2 (M' := mX4_has) dX4_whyNot_89 rfl lkX4_86 gX4_has (Nat.le_of_ble_eq_true rfl) (sX4_has ?_)
            show AW _ mX4_whyNot 92 _ (_ :: _) _ _
            refine aw_if_eqB (tgt := 99) dX4_whyNot_92 rfl rfl (fun c92 => ?_) (fun c92 => ?_)
            · skip
              refine aw_iconst 0 dX4_whyNot_99 rfl (by decide) ?_
              refine aw_ior dX4_whyNot_100 rfl ?_
              refine aw_istore_n dX4_whyNot_101 rfl (by decide) ?_
              show AW _ mX4_whyNot 102 [_, _, _, _, _, _] _ _ _
              refine aw_iinc dX4_whyNot_102 rfl rfl (ii_1 _) (by decide) ?_
              show AW _ mX4_whyNot 105 [_, _, _, _, _, _] _ _ _
              refine aw_goto (q := 27) dX4_whyNot_105 rfl ?_
              refine AW.conv (AW.forget nx_27 (ls := [some (.inr (28, 0)), some (.inl (nI t)), some (.inl (nI c)), some (.inl (whyL (σ 39 0 c) (σ 40 0 c) (σ 41 0 c) (σ 30 0 t) (fun k => σ 33 0 (3 * t + k)) (i + 1))), some (.inl (nI (i + 1))), some (.inl (σ 33 0 (3 * t + i)))]) (fun n v h => by
                match n, h with
                | 0, h => exact h
                | 1, h => exact h
                | 2, h => exact h
                | 3, h => exact h
                | 4, h => exact h
                | 5, h => cases h
                | n + 6, h => simp at h)) ?_ rfl rfl
              simp only [nI_succ, whyL, lp_s]
              simp [hs, c50, c56, c70, c92]
            · skip
              refine aw_iconst 4 dX4_whyNot_95 rfl (by decide) ?_
              refine aw_goto (q := 100) dX4_whyNot_96 rfl ?_
              refine aw_ior dX4_whyNot_100 rfl ?_
              refine aw_istore_n dX4_whyNot_101 rfl (by decide) ?_
              show AW _ mX4_whyNot 102 [_, _, _, _, _, _] _ _ _
              refine aw_iinc dX4_whyNot_102 rfl rfl (ii_1 _) (by decide) ?_
              show AW _ mX4_whyNot 105 [_, _, _, _, _, _] _ _ _
              refine aw_goto (q := 27) dX4_whyNot_105 rfl ?_
              refine AW.conv (AW.forget nx_27 (ls := [some (.inr (28, 0)), some (.inl (nI t)), some (.inl (nI c)), some (.inl (whyL (σ 39 0 c) (σ 40 0 c) (σ 41 0 c) (σ 30 0 t) (fun k => σ 33 0 (3 * t + k)) (i + 1))), some (.inl (nI (i + 1))), some (.inl (σ 33 0 (3 * t + i)))]) (fun n v h => by
                match n, h with
                | 0, h => exact h
                | 1, h => exact h
                | 2, h => exact h
                | 3, h => exact h
                | 4, h => exact h
                | 5, h => cases h
                | n + 6, h => simp at h)) ?_ rfl rfl
              simp only [nI_succ, whyL, lp_s]
              simp [hs, c50, c56, c70, c92]
          · skip
            refine aw_iconst 2 dX4_whyNot_73 rfl (by decide) ?_
            refine aw_goto (q := 78) dX4_whyNot_74 rfl ?_
            refine aw_ior dX4_whyNot_78 rfl ?_
            refine aw_istore_n dX4_whyNot_79 rfl (by decide) ?_
            show AW _ mX4_whyNot 80 [_, _, _, _, _, _] _ _ _
            refine aw_iload_n dX4_whyNot_80 rfl rfl ?_
            refine aw_aload_n dX4_whyNot_81 rfl rfl ?_
            refine aw_getR dX4_whyNot_82 rfl rfl rfl (by decide) flX4_46 ?_
            refine aw_iload_n dX4_whyNot_85 rfl rfl ?_
            refine aw_iald dX4_whyNot_86 rfl rfl (by first | exact vp_in_nI (by omega) (by omega) | decide) ?_
            try simp only [hcc]
            try simp only [hct]
            refine aw_iload dX4_whyNot_87 rfl rfl ?_
            refine aw_S2 (M' := mX4_has) dX4_whyNot_89 rfl lkX4_86 gX4_has (Nat.le_of_ble_eq_true rfl) (sX4_has ?_)
            show AW _ mX4_whyNot 92 _ (_ :: _) _ _
            refine aw_if_eqB (tgt := 99) dX4_whyNot_92 rfl rfl (fun c92 => ?_) (fun c92 => ?_)
            · skip
              refine aw_iconst 0 dX4_whyNot_99 rfl (by decide) ?_
              refine aw_ior dX4_whyNot_100 rfl ?_
              refine aw_istore_n dX4_whyNot_101 rfl (by decide) ?_
              show AW _ mX4_whyNot 102 [_, _, _, _, _, _] _ _ _
              refine aw_iinc dX4_whyNot_102 rfl rfl (ii_1 _) (by decide) ?_
              show AW _ mX4_whyNot 105 [_, _, _, _, _, _] _ _ _
              refine aw_goto (q := 27) dX4_whyNot_105 rfl ?_
              refine AW.conv (AW.forget nx_27 (ls := [some (.inr (28, 0)), some (.inl (nI t)), some (.inl (nI c)), some (.inl (whyL (σ 39 0 c) (σ 40 0 c) (σ 41 0 c) (σ 30 0 t) (fun k => σ 33 0 (3 * t + k)) (i + 1))), some (.inl (nI (i + 1))), some (.inl (σ 33 0 (3 * t + i)))]) (fun n v h => by
                match n, h with
                | 0, h => exact h
                | 1, h => exact h
                | 2, h => exact h
                | 3, h => exact h
                | 4, h => exact h
                | 5, h => cases h
                | n + 6, h => simp at h)) ?_ rfl rfl
              simp only [nI_succ, whyL, lp_s]
              simp [hs, c50, c56, c70, c92]
            · skip
              refine aw_iconst 4 dX4_whyNot_95 rfl (by decide) ?_
              refine aw_goto (q := 100) dX4_whyNot_96 rfl ?_
              refine aw_ior dX4_whyNot_100 rfl ?_
              refine aw_istore_n dX4_whyNot_101 rfl (by decide) ?_
              show AW _ mX4_whyNot 102 [_, _, _, _, _, _] _ _ _
              refine aw_iinc dX4_whyNot_102 rfl rfl (ii_1 _) (by decide) ?_
              show AW _ mX4_whyNot 105 [_, _, _, _, _, _] _ _ _
              refine aw_goto (q := 27) dX4_whyNot_105 rfl ?_
              refine AW.conv (AW.forget nx_27 (ls := [some (.inr (28, 0)), some (.inl (nI t)), some (.inl (nI c)), some (.inl (whyL (σ 39 0 c) (σ 40 0 c) (σ 41 0 c) (σ 30 0 t) (fun k => σ 33 0 (3 * t + k)) (i + 1))), some (.inl (nI (i + 1))), some (.inl (σ 33 0 (3 * t + i)))]) (fun n v h => by
                match n, h with
                | 0, h => exact h
                | 1, h => exact h
                | 2, h => exact h
                | 3, h => exact h
                | 4, h => exact h
                | 5, h => cases h
                | n + 6, h => simp at h)) ?_ rfl rfl
              simp only [nI_succ, whyL, lp_s]
              simp [hs, c50, c56, c70, c92]
end
section
theorem sX4_whyNotI {d : Nat} {σ : SS} {K : ax_K} {t c : Int32} (ht : vp_in t 6) (hc : vp_in c 4) (hK : K (some (whyS σ (ci t) (ci c))) σ) : AW (d + 1) mX4_whyNot 0 (ax_en mX4_whyNot [.inr (28, 0), .inl t, .inl c]) [] σ K := by
  obtain ⟨t, h1, rfl⟩ := vp_in_of ht (by decide)
  obtain ⟨c, h2, rfl⟩ := vp_in_of hc (by decide)
  simp only [ci, nI_clamp (show t < 2 ^ 31 by omega), nI_clamp (show c < 2 ^ 31 by omega)] at hK
  exact sX4_whyNot h1 h2 hK
theorem sX4_doClashI {d : Nat} {σ : SS} {K : ax_K} {t c : Int32} (ht : vp_in t 4) (hc : vp_in c 4) (hK : K (some (bB (clB σ (ci t) (ci c)))) σ) : AW (d + 1) mX4_doClash 0 (ax_en mX4_doClash [.inr (28, 0), .inl t, .inl c]) [] σ K := by
  obtain ⟨t, h1, rfl⟩ := vp_in_of ht (by decide)
  obtain ⟨c, h2, rfl⟩ := vp_in_of hc (by decide)
  simp only [ci, nI_clamp (show t < 2 ^ 31 by omega), nI_clamp (show c < 2 ^ 31 by omega)] at hK
  exact sX4_doClash h1 h2 hK
theorem sX4_washesForI {d : Nat} {σ : SS} {K : ax_K} {t c : Int32} (ht : vp_in t 6) (hc : vp_in c 4) (hl : lt9 (σ 33 0 (3 * ci t))) (hq : ∃ j, j < 8 ∧ σ 37 0 (ci c) = nI j) (hK : K (some (wfS σ (ci t) (ci c))) σ) : AW d mX4_washesFor 0 (ax_en mX4_washesFor [.inr (28, 0), .inl t, .inl c]) [] σ K := by
  obtain ⟨t, h1, rfl⟩ := vp_in_of ht (by decide)
  obtain ⟨c, h2, rfl⟩ := vp_in_of hc (by decide)
  simp only [ci, nI_clamp (show t < 2 ^ 31 by omega), nI_clamp (show c < 2 ^ 31 by omega)] at hK hl hq
  exact sX4_washesFor h1 h2 hl hq hK
set_option maxRecDepth 4000 in
theorem sX4_suited {d : Nat} {σ : SS} {K : ax_K} {c : Nat} {n : Nat} (hcc : c < 4) (hn : n ≤ 6) (h0 : σ 28 0 0 = nI n) (hK : K (some (setI n (fun t => whyS σ t c = 0))) σ) : AW (d + 2) mX4_suited 0 (ax_en mX4_suited [.inr (28, 0), .inl (nI c)]) [] σ K := by
  show AW _ mX4_suited 0 [_, _, _, _] _ _ _
  refine aw_iconst 0 dX4_suited_0 rfl (by decide) ?_
  refine aw_istore_n dX4_suited_1 rfl (by decide) ?_
  show AW _ mX4_suited 2 [_, _, _, _] _ _ _
  refine aw_iconst 0 dX4_suited_2 rfl (by decide) ?_
  refine aw_istore_n dX4_suited_3 rfl (by decide) ?_
  show AW _ mX4_suited 4 [_, _, _, _] _ _ _
  refine AW.conv (ax_loop (P := fun i => AW (d + 2) mX4_suited 4 [some (.inr (28, 0)), some (.inl (nI c)), some (.inl (setI i (fun t => whyS σ t c = 0))), some (.inl (nI i))] [] σ K) n ?_ ?_ 0 (Nat.zero_le _)) (by first | (simp only [nI_0]; done) | (simp only [nI_0]; rfl)) rfl rfl
  · try dsimp only
    refine aw_iload_n dX4_suited_4 rfl rfl ?_
    refine aw_aload_n dX4_suited_5 rfl rfl ?_
    refine aw_getI dX4_suited_6 rfl rfl rfl flX4_75 ?_
    refine aw_icmp_ge (tgt := 37) dX4_suited_9 rfl rfl (fun _ => ?_) (fun z => absurd (by rw [h0]; exact Int32.le_refl _) z)
    refine aw_iload_n dX4_suited_37 rfl rfl ?_
    refine aw_ret dX4_suited_38 rfl rfl ?_
    exact hK
  · intro i hi_4 nx_4
    try dsimp only at nx_4 ⊢
    refine aw_iload_n dX4_suited_4 rfl rfl ?_
    refine aw_aload_n dX4_suited_5 rfl rfl ?_
    refine aw_getI dX4_suited_6 rfl rfl rfl flX4_75 ?_
    refine aw_icmp_ge (tgt := 37) dX4_suited_9 rfl rfl (fun z => absurd z (by rw [h0]; exact nI_ge hi_4 (by omega))) (fun _ => ?_)
    refine aw_iload_n dX4_suited_12 rfl rfl ?_
    refine aw_aload_n dX4_suited_13 rfl rfl ?_
    refine aw_iload_n dX4_suited_14 rfl rfl ?_
    refine aw_iload_n dX4_suited_15 rfl rfl ?_
    refine aw_V2 (M' := mX4_whyNot) dX4_suited_16 rfl lkX4_108 gX4_whyNot rfl rfl (Nat.le_of_ble_eq_true rfl) (sX4_whyNot (by omega) hcc ?_)
    show AW _ mX4_suited 19 _ (_ :: _) _ _
    refine aw_if_ne (tgt := 28) dX4_suited_19 rfl rfl (fun c19 => ?_) (fun c19 => ?_)
    · skip
      refine aw_iconst 0 dX4_suited_28 rfl (by decide) ?_
      refine aw_ior dX4_suited_29 rfl ?_
      refine aw_istore_n dX4_suited_30 rfl (by decide) ?_
      show AW _ mX4_suited 31 [_, _, _, _] _ _ _
      refine aw_iinc dX4_suited_31 rfl rfl (ii_1 _) (by decide) ?_
      show AW _ mX4_suited 34 [_, _, _, _] _ _ _
      refine aw_goto (q := 4) dX4_suited_34 rfl ?_
      refine AW.conv nx_4 ?_ rfl rfl
      have c19b := c19
      first | change ¬ whyS σ i c = 0 at c19b | change whyS σ i c = 0 at c19b
      simp only [nI_succ, setI, lp_s]
      simp [c19b]
    · skip
      refine aw_iconst 1 dX4_suited_22 rfl (by decide) ?_
      refine aw_iload_n dX4_suited_23 rfl rfl ?_
      refine aw_ishl dX4_suited_24 rfl ?_
      refine aw_goto (q := 29) dX4_suited_25 rfl ?_
      refine aw_ior dX4_suited_29 rfl ?_
      refine aw_istore_n dX4_suited_30 rfl (by decide) ?_
      show AW _ mX4_suited 31 [_, _, _, _] _ _ _
      refine aw_iinc dX4_suited_31 rfl rfl (ii_1 _) (by decide) ?_
      show AW _ mX4_suited 34 [_, _, _, _] _ _ _
      refine aw_goto (q := 4) dX4_suited_34 rfl ?_
      refine AW.conv nx_4 ?_ rfl rfl
      have c19b := c19
      first | change ¬ whyS σ i c = 0 at c19b | change whyS σ i c = 0 at c19b
      simp only [nI_succ, setI, lp_s]
      simp [c19b]
set_option maxRecDepth 4000 in
theorem sX4_ofCargo {d : Nat} {σ : SS} {K : ax_K} {t w : Int32} {n cn : Nat} (hn : n ≤ 6) (h0 : σ 28 0 0 = nI n) (hc : cn ≤ 4) (h9 : σ 28 0 9 = nI cn) (k1 : ¬ ixn t cn → K (some (-1)) σ) (k2 : ixn t cn → (∀ j, j < 8 → w ≠ nI j) → K (some (-2)) σ) (k3 : ∀ a, a < cn → t = nI a → ∀ j, j < 8 → w = nI j → K (some (ofCargoM σ n cn a j)) σ) : AW (d + 3) mX4_ofCargo 0 (ax_en mX4_ofCargo [.inr (28, 0), .inl t, .inl w]) [] σ K := by
  show AW _ mX4_ofCargo 0 [_, _, _] _ _ _
  refine aw_aload_n dX4_ofCargo_0 rfl rfl ?_
  refine aw_iload_n dX4_ofCargo_1 rfl rfl ?_
  refine aw_V1 (M' := mX4_isCargo) dX4_ofCargo_2 rfl lkX4_102 gX4_isCargo rfl rfl (Nat.le_of_ble_eq_true rfl) (sX4_isCargo hc h9 ?_)
  show AW _ mX4_ofCargo 5 _ (_ :: _) _ _
  refine aw_if_neb (tgt := 10) dX4_ofCargo_5 rfl rfl (fun c5 => ?_) (fun c5 => ?_)
  · skip
    have hin := c5
    obtain ⟨a, ha, rfl⟩ := ixn_of c5 (by omega)
    have hca : (nI a).toNatClampNeg = a := nI_clamp (by omega)
    refine aw_iload_n dX4_ofCargo_10 rfl rfl ?_
    refine aw_tsw 8 dX4_ofCargo_11 rfl (by decide) (by decide) (fun j hj sx => ?_) (fun sx => ?_)
    · match j, hj with
      | 0, _ =>
        refine AW.conv (pc := 56) ?_ rfl rfl rfl
        refine aw_aload_n dX4_ofCargo_56 rfl rfl ?_
        refine aw_getR dX4_ofCargo_57 rfl rfl rfl (by decide) flX4_34 ?_
        refine aw_iload_n dX4_ofCargo_60 rfl rfl ?_
        refine aw_iald dX4_ofCargo_61 rfl rfl (by first | exact vp_in_nI (by omega) (by omega) | decide) ?_
        refine aw_ret dX4_ofCargo_62 rfl rfl ?_
        exact kk_c (k3 a ha rfl 0 (by decide) sx) (by simp only [ofCargoM, hca]) rfl
      | 1, _ =>
        refine AW.conv (pc := 63) ?_ rfl rfl rfl
        refine aw_aload_n dX4_ofCargo_63 rfl rfl ?_
        refine aw_getR dX4_ofCargo_64 rfl rfl rfl (by decide) flX4_37 ?_
        refine aw_iload_n dX4_ofCargo_67 rfl rfl ?_
        refine aw_iald dX4_ofCargo_68 rfl rfl (by first | exact vp_in_nI (by omega) (by omega) | decide) ?_
        refine aw_ret dX4_ofCargo_69 rfl rfl ?_
        exact kk_c (k3 a ha rfl 1 (by decide) sx) (by simp only [ofCargoM, hca]) rfl
      | 2, _ =>
        refine AW.conv (pc := 70) ?_ rfl rfl rfl
        refine aw_aload_n dX4_ofCargo_70 rfl rfl ?_
        refine aw_getR dX4_ofCargo_71 rfl rfl rfl (by decide) flX4_40 ?_
        refine aw_iload_n dX4_ofCargo_74 rfl rfl ?_
        refine aw_iald dX4_ofCargo_75 rfl rfl (by first | exact vp_in_nI (by omega) (by omega) | decide) ?_
        refine aw_ret dX4_ofCargo_76 rfl rfl ?_
        exact kk_c (k3 a ha rfl 2 (by decide) sx) (by simp only [ofCargoM, hca]) rfl
      | 3, _ =>
        refine AW.conv (pc := 77) ?_ rfl rfl rfl
        refine aw_aload_n dX4_ofCargo_77 rfl rfl ?_
        refine aw_getR dX4_ofCargo_78 rfl rfl rfl (by decide) flX4_43 ?_
        refine aw_iload_n dX4_ofCargo_81 rfl rfl ?_
        refine aw_iald dX4_ofCargo_82 rfl rfl (by first | exact vp_in_nI (by omega) (by omega) | decide) ?_
        refine aw_ret dX4_ofCargo_83 rfl rfl ?_
        exact kk_c (k3 a ha rfl 3 (by decide) sx) (by simp only [ofCargoM, hca]) rfl
      | 4, _ =>
        refine AW.conv (pc := 84) ?_ rfl rfl rfl
        refine aw_aload_n dX4_ofCargo_84 rfl rfl ?_
        refine aw_getR dX4_ofCargo_85 rfl rfl rfl (by decide) flX4_46 ?_
        refine aw_iload_n dX4_ofCargo_88 rfl rfl ?_
        refine aw_iald dX4_ofCargo_89 rfl rfl (by first | exact vp_in_nI (by omega) (by omega) | decide) ?_
        refine aw_ret dX4_ofCargo_90 rfl rfl ?_
        exact kk_c (k3 a ha rfl 4 (by decide) sx) (by simp only [ofCargoM, hca]) rfl
      | 5, _ =>
        refine AW.conv (pc := 91) ?_ rfl rfl rfl
        refine aw_aload_n dX4_ofCargo_91 rfl rfl ?_
        refine aw_getR dX4_ofCargo_92 rfl rfl rfl (by decide) flX4_49 ?_
        refine aw_iload_n dX4_ofCargo_95 rfl rfl ?_
        refine aw_iald dX4_ofCargo_96 rfl rfl (by first | exact vp_in_nI (by omega) (by omega) | decide) ?_
        refine aw_ret dX4_ofCargo_97 rfl rfl ?_
        exact kk_c (k3 a ha rfl 5 (by decide) sx) (by simp only [ofCargoM, hca]) rfl
      | 6, _ =>
        refine AW.conv (pc := 98) ?_ rfl rfl rfl
        refine aw_aload_n dX4_ofCargo_98 rfl rfl ?_
        refine aw_iload_n dX4_ofCargo_99 rfl rfl ?_
        refine aw_V1 (M' := mX4_suited) dX4_ofCargo_100 rfl lkX4_112 gX4_suited rfl rfl (Nat.le_of_ble_eq_true rfl) (sX4_suited (by omega) hn h0 ?_)
        show AW _ mX4_ofCargo 103 _ (_ :: _) _ _
        refine aw_ret dX4_ofCargo_103 rfl rfl ?_
        exact k3 a ha rfl 6 (by decide) sx
      | 7, _ =>
        refine AW.conv (pc := 104) ?_ rfl rfl rfl
        refine aw_aload_n dX4_ofCargo_104 rfl rfl ?_
        refine aw_iload_n dX4_ofCargo_105 rfl rfl ?_
        refine aw_V1 (M' := mX4_clashes) dX4_ofCargo_106 rfl lkX4_115 gX4_clashes rfl rfl (Nat.le_of_ble_eq_true rfl) (sX4_clashes (by omega) hc h9 ?_)
        show AW _ mX4_ofCargo 109 _ (_ :: _) _ _
        refine aw_ret dX4_ofCargo_109 rfl rfl ?_
        exact k3 a ha rfl 7 (by decide) sx
      | j + 8, hj => exact absurd hj (by omega)
    · refine AW.conv (pc := 110) ?_ rfl rfl rfl
      refine aw_bipush (-2) dX4_ofCargo_110 rfl (by decide) ?_
      refine aw_ret dX4_ofCargo_112 rfl rfl ?_
      exact k2 hin sx
  · skip
    refine aw_iconst (-1) dX4_ofCargo_8 rfl (by decide) ?_
    refine aw_ret dX4_ofCargo_9 rfl rfl ?_
    exact k1 c5
set_option maxRecDepth 4000 in
theorem sX4_needs {d : Nat} {σ : SS} {K : ax_K} {t c : Int32} {n cn : Nat} (hn : n ≤ 6) (h0 : σ 28 0 0 = nI n) (hc : cn ≤ 4) (h9 : σ 28 0 9 = nI cn) (hLat : ∀ x, x < 18 → lt9 (σ 33 0 x)) (hLiq : ∀ c, c < 4 → ∃ j, j < 8 ∧ σ 37 0 c = nI j) (k1 : ¬ (ixn t n ∧ ixn c cn) → K (some (-1)) σ) (k2 : ∀ a b, a < n → b < cn → t = nI a → c = nI b → K (some (wfS σ a b)) σ) : AW (d + 2) mX4_needs 0 (ax_en mX4_needs [.inr (28, 0), .inl t, .inl c]) [] σ K := by
  show AW _ mX4_needs 0 [_, _, _] _ _ _
  refine aw_aload_n dX4_needs_0 rfl rfl ?_
  refine aw_iload_n dX4_needs_1 rfl rfl ?_
  refine aw_V1 (M' := mX4_isTank) dX4_needs_2 rfl lkX4_78 gX4_isTank rfl rfl (Nat.le_of_ble_eq_true rfl) (sX4_isTank hn h0 ?_)
  show AW _ mX4_needs 5 _ (_ :: _) _ _
  refine aw_if_eqb (tgt := 25) dX4_needs_5 rfl rfl (fun c5 => ?_) (fun c5 => ?_)
  · skip
    refine aw_iconst (-1) dX4_needs_25 rfl (by decide) ?_
    refine aw_ret dX4_needs_26 rfl rfl ?_
    first | exact k2 a b ha hb rfl rfl | exact k1 (fun z => by first | exact c5 z.1 | exact c13 z.2)
  · skip
    refine aw_aload_n dX4_needs_8 rfl rfl ?_
    refine aw_iload_n dX4_needs_9 rfl rfl ?_
    refine aw_V1 (M' := mX4_isCargo) dX4_needs_10 rfl lkX4_102 gX4_isCargo rfl rfl (Nat.le_of_ble_eq_true rfl) (sX4_isCargo hc h9 ?_)
    show AW _ mX4_needs 13 _ (_ :: _) _ _
    refine aw_if_eqb (tgt := 25) dX4_needs_13 rfl rfl (fun c13 => ?_) (fun c13 => ?_)
    · skip
      refine aw_iconst (-1) dX4_needs_25 rfl (by decide) ?_
      refine aw_ret dX4_needs_26 rfl rfl ?_
      first | exact k2 a b ha hb rfl rfl | exact k1 (fun z => by first | exact c5 z.1 | exact c13 z.2)
    · skip
      obtain ⟨a, ha, rfl⟩ := ixn_of c5 (by omega)
      obtain ⟨b, hb, rfl⟩ := ixn_of c13 (by omega)
      refine aw_aload_n dX4_needs_16 rfl rfl ?_
      refine aw_iload_n dX4_needs_17 rfl rfl ?_
      refine aw_iload_n dX4_needs_18 rfl rfl ?_
      refine aw_V2 (M' := mX4_washesFor) dX4_needs_19 rfl lkX4_118 gX4_washesFor rfl rfl (Nat.le_of_ble_eq_true rfl) (sX4_washesFor (by omega) (by omega) (hLat _ (by omega)) (hLiq _ (by omega)) ?_)
      show AW _ mX4_needs 22 _ (_ :: _) _ _
      refine aw_goto (q := 26) dX4_needs_22 rfl ?_
      refine aw_ret dX4_needs_26 rfl rfl ?_
      first | exact k2 a b ha hb rfl rfl | exact k1 (fun z => by first | exact c5 z.1 | exact c13 z.2)
set_option maxRecDepth 4000 in
theorem sX4_why {d : Nat} {σ : SS} {K : ax_K} {t c : Int32} {n cn : Nat} (hn : n ≤ 6) (h0 : σ 28 0 0 = nI n) (hc : cn ≤ 4) (h9 : σ 28 0 9 = nI cn) (k1 : ¬ (ixn t n ∧ ixn c cn) → K (some (-1)) σ) (k2 : ∀ a b, a < n → b < cn → t = nI a → c = nI b → K (some (whyS σ a b)) σ) : AW (d + 2) mX4_why 0 (ax_en mX4_why [.inr (28, 0), .inl t, .inl c]) [] σ K := by
  show AW _ mX4_why 0 [_, _, _] _ _ _
  refine aw_aload_n dX4_why_0 rfl rfl ?_
  refine aw_iload_n dX4_why_1 rfl rfl ?_
  refine aw_V1 (M' := mX4_isTank) dX4_why_2 rfl lkX4_78 gX4_isTank rfl rfl (Nat.le_of_ble_eq_true rfl) (sX4_isTank hn h0 ?_)
  show AW _ mX4_why 5 _ (_ :: _) _ _
  refine aw_if_eqb (tgt := 25) dX4_why_5 rfl rfl (fun c5 => ?_) (fun c5 => ?_)
  · skip
    refine aw_iconst (-1) dX4_why_25 rfl (by decide) ?_
    refine aw_ret dX4_why_26 rfl rfl ?_
    first | exact k2 a b ha hb rfl rfl | exact k1 (fun z => by first | exact c5 z.1 | exact c13 z.2)
  · skip
    refine aw_aload_n dX4_why_8 rfl rfl ?_
    refine aw_iload_n dX4_why_9 rfl rfl ?_
    refine aw_V1 (M' := mX4_isCargo) dX4_why_10 rfl lkX4_102 gX4_isCargo rfl rfl (Nat.le_of_ble_eq_true rfl) (sX4_isCargo hc h9 ?_)
    show AW _ mX4_why 13 _ (_ :: _) _ _
    refine aw_if_eqb (tgt := 25) dX4_why_13 rfl rfl (fun c13 => ?_) (fun c13 => ?_)
    · skip
      refine aw_iconst (-1) dX4_why_25 rfl (by decide) ?_
      refine aw_ret dX4_why_26 rfl rfl ?_
      first | exact k2 a b ha hb rfl rfl | exact k1 (fun z => by first | exact c5 z.1 | exact c13 z.2)
    · skip
      obtain ⟨a, ha, rfl⟩ := ixn_of c5 (by omega)
      obtain ⟨b, hb, rfl⟩ := ixn_of c13 (by omega)
      refine aw_aload_n dX4_why_16 rfl rfl ?_
      refine aw_iload_n dX4_why_17 rfl rfl ?_
      refine aw_iload_n dX4_why_18 rfl rfl ?_
      refine aw_V2 (M' := mX4_whyNot) dX4_why_19 rfl lkX4_108 gX4_whyNot rfl rfl (Nat.le_of_ble_eq_true rfl) (sX4_whyNot (by omega) (by omega) ?_)
      show AW _ mX4_why 22 _ (_ :: _) _ _
      refine aw_goto (q := 26) dX4_why_22 rfl ?_
      refine aw_ret dX4_why_26 rfl rfl ?_
      first | exact k2 a b ha hb rfl rfl | exact k1 (fun z => by first | exact c5 z.1 | exact c13 z.2)
set_option maxRecDepth 4000 in
theorem sX4_isSetOfCargoes {d : Nat} {σ : SS} {K : ax_K} {v : Int32} {cn : Nat} (hc : cn ≤ 4) (h9 : σ 28 0 9 = nI cn) (hK : K (some (bI (ixn v (2 ^ cn)))) σ) : AW (d + 1) mX4_isSetOfCargoes 0 (ax_en mX4_isSetOfCargoes [.inr (28, 0), .inl v]) [] σ K := by
  show AW _ mX4_isSetOfCargoes 0 [_, _] _ _ _
  refine aw_iload_n dX4_isSetOfCargoes_0 rfl rfl ?_
  refine aw_iconst 0 dX4_isSetOfCargoes_1 rfl (by decide) ?_
  refine aw_iconst 1 dX4_isSetOfCargoes_2 rfl (by decide) ?_
  refine aw_aload_n dX4_isSetOfCargoes_3 rfl rfl ?_
  refine aw_getI dX4_isSetOfCargoes_4 rfl rfl rfl flX4_92 ?_
  refine aw_ishl dX4_isSetOfCargoes_7 rfl ?_
  refine aw_iconst 1 dX4_isSetOfCargoes_8 rfl (by decide) ?_
  refine aw_isub dX4_isSetOfCargoes_9 rfl ?_
  refine aw_S3 (M' := mX4_within) dX4_isSetOfCargoes_10 rfl lkX4_71 gX4_within (Nat.le_of_ble_eq_true rfl) (sX4_within ?_)
  show AW _ mX4_isSetOfCargoes 13 _ (_ :: _) _ _
  refine aw_ret dX4_isSetOfCargoes_13 rfl (by unfold bI; split <;> decide) ?_
  rw [h9, shl1 (by omega)]
  exact kk_c hK (by rw [bI_c (ixn_le (two_lt hc))]) rfl
set_option maxRecDepth 4000 in
theorem sX4_plan {d : Nat} {σ : SS} {K : ax_K} {t c : Int32} {n cn : Nat} (hn : n ≤ 6) (h0 : σ 28 0 0 = nI n) (hc : cn ≤ 4) (h9 : σ 28 0 9 = nI cn) (k1 : ¬ (ixn t n ∧ (c = -9 ∨ ixn c cn)) → K (some (-1)) σ) (k2 : ∀ a, a < n → t = nI a → (c = -9 ∨ ixn c cn) → K (some (σ 34 0 a)) (rp σ 34 0 (upd (σ 34 0) a c))) : AW (d + 2) mX4_plan 0 (ax_en mX4_plan [.inr (28, 0), .inl t, .inl c]) [] σ K := by
  show AW _ mX4_plan 0 [_, _, _, _] _ _ _
  refine aw_aload_n dX4_plan_0 rfl rfl ?_
  refine aw_iload_n dX4_plan_1 rfl rfl ?_
  refine aw_V1 (M' := mX4_isTank) dX4_plan_2 rfl lkX4_78 gX4_isTank rfl rfl (Nat.le_of_ble_eq_true rfl) (sX4_isTank hn h0 ?_)
  show AW _ mX4_plan 5 _ (_ :: _) _ _
  refine aw_if_eqb (tgt := 22) dX4_plan_5 rfl rfl (fun c5 => ?_) (fun c5 => ?_)
  · skip
    refine aw_iconst (-1) dX4_plan_22 rfl (by decide) ?_
    refine aw_ret dX4_plan_23 rfl rfl ?_
    exact k1 (fun z => by first | exact c5 z.1 | exact z.2.elim c11 c19)
  · skip
    refine aw_iload_n dX4_plan_8 rfl rfl ?_
    refine aw_bipush (-9) dX4_plan_9 rfl (by decide) ?_
    refine aw_icmp_eq (tgt := 24) dX4_plan_11 rfl rfl (fun c11 => ?_) (fun c11 => ?_)
    · skip
      obtain ⟨a, ha, rfl⟩ := ixn_of c5 (by omega)
      have hca : (nI a).toNatClampNeg = a := nI_clamp (by omega)
      refine aw_aload_n dX4_plan_24 rfl rfl ?_
      refine aw_getR dX4_plan_25 rfl rfl rfl (by decide) flX4_25 ?_
      refine aw_iload_n dX4_plan_28 rfl rfl ?_
      refine aw_iald dX4_plan_29 rfl rfl (by first | exact vp_in_nI (by omega) (by omega) | decide) ?_
      refine aw_istore_n dX4_plan_30 rfl (by decide) ?_
      show AW _ mX4_plan 31 [_, _, _, _] _ _ _
      refine aw_aload_n dX4_plan_31 rfl rfl ?_
      refine aw_getR dX4_plan_32 rfl rfl rfl (by decide) flX4_25 ?_
      refine aw_iload_n dX4_plan_35 rfl rfl ?_
      refine aw_iload_n dX4_plan_36 rfl rfl ?_
      refine aw_iast dX4_plan_37 rfl rfl (by first | exact vp_in_nI (by omega) (by omega) | decide) ?_
      refine aw_iload_n dX4_plan_38 rfl rfl ?_
      refine aw_ret dX4_plan_39 rfl rfl ?_
      exact kk_c (k2 a ha rfl (by first | exact Or.inl (by assumption) | exact Or.inr (by assumption))) (by rw [hca]) (by rw [hca])
    · skip
      refine aw_aload_n dX4_plan_14 rfl rfl ?_
      refine aw_iload_n dX4_plan_15 rfl rfl ?_
      refine aw_V1 (M' := mX4_isCargo) dX4_plan_16 rfl lkX4_102 gX4_isCargo rfl rfl (Nat.le_of_ble_eq_true rfl) (sX4_isCargo hc h9 ?_)
      show AW _ mX4_plan 19 _ (_ :: _) _ _
      refine aw_if_neb (tgt := 24) dX4_plan_19 rfl rfl (fun c19 => ?_) (fun c19 => ?_)
      · skip
        obtain ⟨a, ha, rfl⟩ := ixn_of c5 (by omega)
        have hca : (nI a).toNatClampNeg = a := nI_clamp (by omega)
        refine aw_aload_n dX4_plan_24 rfl rfl ?_
        refine aw_getR dX4_plan_25 rfl rfl rfl (by decide) flX4_25 ?_
        refine aw_iload_n dX4_plan_28 rfl rfl ?_
        refine aw_iald dX4_plan_29 rfl rfl (by first | exact vp_in_nI (by omega) (by omega) | decide) ?_
        refine aw_istore_n dX4_plan_30 rfl (by decide) ?_
        show AW _ mX4_plan 31 [_, _, _, _] _ _ _
        refine aw_aload_n dX4_plan_31 rfl rfl ?_
        refine aw_getR dX4_plan_32 rfl rfl rfl (by decide) flX4_25 ?_
        refine aw_iload_n dX4_plan_35 rfl rfl ?_
        refine aw_iload_n dX4_plan_36 rfl rfl ?_
        refine aw_iast dX4_plan_37 rfl rfl (by first | exact vp_in_nI (by omega) (by omega) | decide) ?_
        refine aw_iload_n dX4_plan_38 rfl rfl ?_
        refine aw_ret dX4_plan_39 rfl rfl ?_
        exact kk_c (k2 a ha rfl (by first | exact Or.inl (by assumption) | exact Or.inr (by assumption))) (by rw [hca]) (by rw [hca])
      · skip
        refine aw_iconst (-1) dX4_plan_22 rfl (by decide) ?_
        refine aw_ret dX4_plan_23 rfl rfl ?_
        exact k1 (fun z => by first | exact c5 z.1 | exact z.2.elim c11 c19)
set_option maxRecDepth 4000 in
theorem sX4_triesPlan {d : Nat} {σ : SS} {K : ax_K} {n : Nat} (hn : n ≤ 6) (h0 : σ 28 0 0 = nI n) (hK : K none (rp σ 44 0 (fun t => if t < n then σ 34 0 t else σ 44 0 t))) : AW d mX4_triesPlan 0 (ax_en mX4_triesPlan [.inr (28, 0)]) [] σ K := by
  show AW _ mX4_triesPlan 0 [_, _] _ _ _
  refine aw_iconst 0 dX4_triesPlan_0 rfl (by decide) ?_
  refine aw_istore_n dX4_triesPlan_1 rfl (by decide) ?_
  show AW _ mX4_triesPlan 2 [_, _] _ _ _
  refine AW.conv (ax_loop (P := fun i => AW d mX4_triesPlan 2 [some (.inr (28, 0)), some (.inl (nI i))] [] (rp σ 44 0 (fun t => if t < i then σ 34 0 t else σ 44 0 t)) K) n ?_ ?_ 0 (Nat.zero_le _)) (by first | (simp only [nI_0]; done) | (simp only [nI_0]; rfl)) rfl (by rw [up_0, rp_self])
  · try dsimp only
    refine aw_iload_n dX4_triesPlan_2 rfl rfl ?_
    refine aw_aload_n dX4_triesPlan_3 rfl rfl ?_
    refine aw_getI dX4_triesPlan_4 rfl rfl rfl flX4_75 ?_
    refine aw_icmp_ge (tgt := 28) dX4_triesPlan_7 rfl rfl (fun _ => ?_) (fun z => absurd (by rw [rp_nk (by decide), h0]; exact Int32.le_refl _) z)
    refine aw_vret dX4_triesPlan_28 rfl ?_
    exact hK
  · intro i hi_2 nx_2
    try dsimp only at nx_2 ⊢
    have hci : (nI i).toNatClampNeg = i := nI_clamp (by omega)
    refine aw_iload_n dX4_triesPlan_2 rfl rfl ?_
    refine aw_aload_n dX4_triesPlan_3 rfl rfl ?_
    refine aw_getI dX4_triesPlan_4 rfl rfl rfl flX4_75 ?_
    refine aw_icmp_ge (tgt := 28) dX4_triesPlan_7 rfl rfl (fun z => absurd z (by rw [rp_nk (by decide), h0]; exact nI_ge hi_2 (by omega))) (fun _ => ?_)
    refine aw_aload_n dX4_triesPlan_10 rfl rfl ?_
    refine aw_getR dX4_triesPlan_11 rfl rfl rfl (by decide) flX4_59 ?_
    refine aw_iload_n dX4_triesPlan_14 rfl rfl ?_
    refine aw_aload_n dX4_triesPlan_15 rfl rfl ?_
    refine aw_getR dX4_triesPlan_16 rfl rfl rfl (by decide) flX4_25 ?_
    refine aw_iload_n dX4_triesPlan_19 rfl rfl ?_
    refine aw_iald dX4_triesPlan_20 rfl rfl (by first | exact vp_in_nI (by omega) (by omega) | decide) ?_
    refine aw_iast dX4_triesPlan_21 rfl rfl (by first | exact vp_in_nI (by omega) (by omega) | decide) ?_
    refine aw_iinc dX4_triesPlan_22 rfl rfl (ii_1 _) (by decide) ?_
    show AW _ mX4_triesPlan 25 [_, _] _ _ _
    refine aw_goto (q := 2) dX4_triesPlan_25 rfl ?_
    refine AW.conv nx_2 (by first | (simp only [nI_succ]; done) | (simp only [nI_succ]; rfl)) rfl ?_
    simp only [rp_nk, rp_at, rp_rp, pk_us, ne_eq, Nat.reduceEqDiff, not_false_eq_true, hci, Nat.lt_irrefl, if_false]
    rw [up_lt]
set_option maxRecDepth 4000 in
theorem sX4_listOf {d : Nat} {σ : SS} {K : ax_K} {n : Nat} (hn : n ≤ 6) (h0 : σ 28 0 0 = nI n) (hK : K (some (sumI n (fun t => σ 45 0 t * σ 31 0 t))) σ) : AW d mX4_listOf 0 (ax_en mX4_listOf [.inr (28, 0)]) [] σ K := by
  show AW _ mX4_listOf 0 [_, _, _] _ _ _
  refine aw_iconst 0 dX4_listOf_0 rfl (by decide) ?_
  refine aw_istore_n dX4_listOf_1 rfl (by decide) ?_
  show AW _ mX4_listOf 2 [_, _, _] _ _ _
  refine aw_iconst 0 dX4_listOf_2 rfl (by decide) ?_
  refine aw_istore_n dX4_listOf_3 rfl (by decide) ?_
  show AW _ mX4_listOf 4 [_, _, _] _ _ _
  refine AW.conv (ax_loop (P := fun i => AW d mX4_listOf 4 [some (.inr (28, 0)), some (.inl (sumI i (fun t => σ 45 0 t * σ 31 0 t))), some (.inl (nI i))] [] σ K) n ?_ ?_ 0 (Nat.zero_le _)) (by first | (simp only [nI_0]; done) | (simp only [nI_0]; rfl)) rfl rfl
  · try dsimp only
    refine aw_iload_n dX4_listOf_4 rfl rfl ?_
    refine aw_aload_n dX4_listOf_5 rfl rfl ?_
    refine aw_getI dX4_listOf_6 rfl rfl rfl flX4_75 ?_
    refine aw_icmp_ge (tgt := 34) dX4_listOf_9 rfl rfl (fun _ => ?_) (fun z => absurd (by rw [h0]; exact Int32.le_refl _) z)
    refine aw_iload_n dX4_listOf_34 rfl rfl ?_
    refine aw_ret dX4_listOf_35 rfl rfl ?_
    exact hK
  · intro i hi_4 nx_4
    try dsimp only at nx_4 ⊢
    have hci : (nI i).toNatClampNeg = i := nI_clamp (by omega)
    refine aw_iload_n dX4_listOf_4 rfl rfl ?_
    refine aw_aload_n dX4_listOf_5 rfl rfl ?_
    refine aw_getI dX4_listOf_6 rfl rfl rfl flX4_75 ?_
    refine aw_icmp_ge (tgt := 34) dX4_listOf_9 rfl rfl (fun z => absurd z (by rw [h0]; exact nI_ge hi_4 (by omega))) (fun _ => ?_)
    refine aw_iload_n dX4_listOf_12 rfl rfl ?_
    refine aw_aload_n dX4_listOf_13 rfl rfl ?_
    refine aw_getR dX4_listOf_14 rfl rfl rfl (by decide) flX4_62 ?_
    refine aw_iload_n dX4_listOf_17 rfl rfl ?_
    refine aw_iald dX4_listOf_18 rfl rfl (by first | exact vp_in_nI (by omega) (by omega) | decide) ?_
    refine aw_aload_n dX4_listOf_19 rfl rfl ?_
    refine aw_getR dX4_listOf_20 rfl rfl rfl (by decide) flX4_16 ?_
    refine aw_iload_n dX4_listOf_23 rfl rfl ?_
    refine aw_iald dX4_listOf_24 rfl rfl (by first | exact vp_in_nI (by omega) (by omega) | decide) ?_
    refine aw_imul dX4_listOf_25 rfl ?_
    refine aw_iadd dX4_listOf_26 rfl ?_
    refine aw_istore_n dX4_listOf_27 rfl (by decide) ?_
    show AW _ mX4_listOf 28 [_, _, _] _ _ _
    refine aw_iinc dX4_listOf_28 rfl rfl (ii_1 _) (by decide) ?_
    show AW _ mX4_listOf 31 [_, _, _] _ _ _
    refine aw_goto (q := 4) dX4_listOf_31 rfl ?_
    refine AW.conv nx_4 ?_ rfl rfl
    simp only [nI_succ, sumI, lp_s, hci]
set_option maxRecDepth 4000 in
theorem sX4_heldList {d : Nat} {σ : SS} {K : ax_K} {n : Nat} (hn : n ≤ 6) (h0 : σ 28 0 0 = nI n) (hK : K (some (sumI n (fun t => σ 36 0 t * σ 31 0 t))) σ) : AW d mX4_heldList 0 (ax_en mX4_heldList [.inr (28, 0)]) [] σ K := by
  show AW _ mX4_heldList 0 [_, _, _] _ _ _
  refine aw_iconst 0 dX4_heldList_0 rfl (by decide) ?_
  refine aw_istore_n dX4_heldList_1 rfl (by decide) ?_
  show AW _ mX4_heldList 2 [_, _, _] _ _ _
  refine aw_iconst 0 dX4_heldList_2 rfl (by decide) ?_
  refine aw_istore_n dX4_heldList_3 rfl (by decide) ?_
  show AW _ mX4_heldList 4 [_, _, _] _ _ _
  refine AW.conv (ax_loop (P := fun i => AW d mX4_heldList 4 [some (.inr (28, 0)), some (.inl (sumI i (fun t => σ 36 0 t * σ 31 0 t))), some (.inl (nI i))] [] σ K) n ?_ ?_ 0 (Nat.zero_le _)) (by first | (simp only [nI_0]; done) | (simp only [nI_0]; rfl)) rfl rfl
  · try dsimp only
    refine aw_iload_n dX4_heldList_4 rfl rfl ?_
    refine aw_aload_n dX4_heldList_5 rfl rfl ?_
    refine aw_getI dX4_heldList_6 rfl rfl rfl flX4_75 ?_
    refine aw_icmp_ge (tgt := 34) dX4_heldList_9 rfl rfl (fun _ => ?_) (fun z => absurd (by rw [h0]; exact Int32.le_refl _) z)
    refine aw_iload_n dX4_heldList_34 rfl rfl ?_
    refine aw_ret dX4_heldList_35 rfl rfl ?_
    exact hK
  · intro i hi_4 nx_4
    try dsimp only at nx_4 ⊢
    have hci : (nI i).toNatClampNeg = i := nI_clamp (by omega)
    refine aw_iload_n dX4_heldList_4 rfl rfl ?_
    refine aw_aload_n dX4_heldList_5 rfl rfl ?_
    refine aw_getI dX4_heldList_6 rfl rfl rfl flX4_75 ?_
    refine aw_icmp_ge (tgt := 34) dX4_heldList_9 rfl rfl (fun z => absurd z (by rw [h0]; exact nI_ge hi_4 (by omega))) (fun _ => ?_)
    refine aw_iload_n dX4_heldList_12 rfl rfl ?_
    refine aw_aload_n dX4_heldList_13 rfl rfl ?_
    refine aw_getR dX4_heldList_14 rfl rfl rfl (by decide) flX4_31 ?_
    refine aw_iload_n dX4_heldList_17 rfl rfl ?_
    refine aw_iald dX4_heldList_18 rfl rfl (by first | exact vp_in_nI (by omega) (by omega) | decide) ?_
    refine aw_aload_n dX4_heldList_19 rfl rfl ?_
    refine aw_getR dX4_heldList_20 rfl rfl rfl (by decide) flX4_16 ?_
    refine aw_iload_n dX4_heldList_23 rfl rfl ?_
    refine aw_iald dX4_heldList_24 rfl rfl (by first | exact vp_in_nI (by omega) (by omega) | decide) ?_
    refine aw_imul dX4_heldList_25 rfl ?_
    refine aw_iadd dX4_heldList_26 rfl ?_
    refine aw_istore_n dX4_heldList_27 rfl (by decide) ?_
    show AW _ mX4_heldList 28 [_, _, _] _ _ _
    refine aw_iinc dX4_heldList_28 rfl rfl (ii_1 _) (by decide) ?_
    show AW _ mX4_heldList 31 [_, _, _] _ _ _
    refine aw_goto (q := 4) dX4_heldList_31 rfl ?_
    refine AW.conv nx_4 ?_ rfl rfl
    simp only [nI_succ, sumI, lp_s, hci]
end
section
set_option maxRecDepth 4000 in
theorem sX4_hasOther {d : Nat} {σ : SS} {K : ax_K} {v : Int32} {n : Nat} (hn : n ≤ 6) (h0 : σ 28 0 0 = nI n) (hK : K (some (bB (anyB n (oB v (σ 44 0))))) σ) : AW (d + 1) mX4_hasOther 0 (ax_en mX4_hasOther [.inr (28, 0), .inl v]) [] σ K := by
  show AW _ mX4_hasOther 0 [_, _, _, _] _ _ _
  refine aw_iconst 0 dX4_hasOther_0 rfl (by decide) ?_
  refine aw_istore_n dX4_hasOther_1 rfl (by decide) ?_
  show AW _ mX4_hasOther 2 [_, _, _, _] _ _ _
  refine aw_iconst 0 dX4_hasOther_2 rfl (by decide) ?_
  refine aw_istore_n dX4_hasOther_3 rfl (by decide) ?_
  show AW _ mX4_hasOther 4 [_, _, _, _] _ _ _
  refine AW.conv (ax_loop (P := fun i => AW (d + 1) mX4_hasOther 4 [some (.inr (28, 0)), some (.inl v), some (.inl (bB (anyB i (oB v (σ 44 0))))), some (.inl (nI i))] [] σ K) n ?_ ?_ 0 (Nat.zero_le _)) (by rw [nI_0, anyB_0]; rfl) rfl rfl
  · try dsimp only
    refine aw_iload_n dX4_hasOther_4 rfl rfl ?_
    refine aw_aload_n dX4_hasOther_5 rfl rfl ?_
    refine aw_getI dX4_hasOther_6 rfl rfl rfl flX4_75 ?_
    refine aw_icmp_ge (tgt := 52) dX4_hasOther_9 rfl rfl (fun _ => ?_) (fun z => absurd (by rw [h0]; exact Int32.le_refl _) z)
    refine aw_iload_n dX4_hasOther_52 rfl rfl ?_
    refine aw_ret dX4_hasOther_53 rfl (bB_nar _) ?_
    exact hK
  · intro i hi_4 nx_4
    try dsimp only at nx_4 ⊢
    have hci : (nI i).toNatClampNeg = i := nI_clamp (by omega)
    refine aw_iload_n dX4_hasOther_4 rfl rfl ?_
    refine aw_aload_n dX4_hasOther_5 rfl rfl ?_
    refine aw_getI dX4_hasOther_6 rfl rfl rfl flX4_75 ?_
    refine aw_icmp_ge (tgt := 52) dX4_hasOther_9 rfl rfl (fun z => absurd z (by rw [h0]; exact nI_ge hi_4 (by omega))) (fun _ => ?_)
    refine aw_iload_n dX4_hasOther_12 rfl rfl ?_
    refine aw_if_neB (tgt := 40) dX4_hasOther_13 rfl rfl (fun c13 => ?_) (fun c13 => ?_)
    · skip
      refine aw_iconst 1 dX4_hasOther_40 rfl (by decide) ?_
      refine aw_goto (q := 45) dX4_hasOther_41 rfl ?_
      refine aw_istore_n dX4_hasOther_45 rfl (by decide) ?_
      show AW _ mX4_hasOther 46 [_, _, _, _] _ _ _
      refine aw_iinc dX4_hasOther_46 rfl rfl (ii_1 _) (by decide) ?_
      show AW _ mX4_hasOther 49 [_, _, _, _] _ _ _
      refine aw_goto (q := 4) dX4_hasOther_49 rfl ?_
      refine AW.conv nx_4 ?_ rfl rfl
      simp only [nI_succ, anyB_s]
      simp [hs, bB, oB, c13]
    · skip
      refine aw_aload_n dX4_hasOther_16 rfl rfl ?_
      refine aw_getR dX4_hasOther_17 rfl rfl rfl (by decide) flX4_59 ?_
      refine aw_iload_n dX4_hasOther_20 rfl rfl ?_
      refine aw_iald dX4_hasOther_21 rfl rfl (by first | exact vp_in_nI (by omega) (by omega) | decide) ?_
      try simp only [hci]
      refine aw_bipush (-9) dX4_hasOther_22 rfl (by decide) ?_
      refine aw_icmp_eq (tgt := 44) dX4_hasOther_24 rfl rfl (fun c24 => ?_) (fun c24 => ?_)
      · skip
        refine aw_iconst 0 dX4_hasOther_44 rfl (by decide) ?_
        refine aw_istore_n dX4_hasOther_45 rfl (by decide) ?_
        show AW _ mX4_hasOther 46 [_, _, _, _] _ _ _
        refine aw_iinc dX4_hasOther_46 rfl rfl (ii_1 _) (by decide) ?_
        show AW _ mX4_hasOther 49 [_, _, _, _] _ _ _
        refine aw_goto (q := 4) dX4_hasOther_49 rfl ?_
        refine AW.conv nx_4 ?_ rfl rfl
        simp only [nI_succ, anyB_s]
        simp [hs, bB, oB, c13, c24]
      · skip
        refine aw_iload_n dX4_hasOther_27 rfl rfl ?_
        refine aw_aload_n dX4_hasOther_28 rfl rfl ?_
        refine aw_getR dX4_hasOther_29 rfl rfl rfl (by decide) flX4_59 ?_
        refine aw_iload_n dX4_hasOther_32 rfl rfl ?_
        refine aw_iald dX4_hasOther_33 rfl rfl (by first | exact vp_in_nI (by omega) (by omega) | decide) ?_
        try simp only [hci]
        refine aw_S2 (M' := mX4_has) dX4_hasOther_34 rfl lkX4_86 gX4_has (Nat.le_of_ble_eq_true rfl) (sX4_has ?_)
        show AW _ mX4_hasOther 37 _ (_ :: _) _ _
        refine aw_if_neB (tgt := 44) dX4_hasOther_37 rfl rfl (fun c37 => ?_) (fun c37 => ?_)
        · skip
          refine aw_iconst 0 dX4_hasOther_44 rfl (by decide) ?_
          refine aw_istore_n dX4_hasOther_45 rfl (by decide) ?_
          show AW _ mX4_hasOther 46 [_, _, _, _] _ _ _
          refine aw_iinc dX4_hasOther_46 rfl rfl (ii_1 _) (by decide) ?_
          show AW _ mX4_hasOther 49 [_, _, _, _] _ _ _
          refine aw_goto (q := 4) dX4_hasOther_49 rfl ?_
          refine AW.conv nx_4 ?_ rfl rfl
          simp only [nI_succ, anyB_s]
          simp [hs, bB, oB, c13, c24, c37]
        · skip
          refine aw_iconst 1 dX4_hasOther_40 rfl (by decide) ?_
          refine aw_goto (q := 45) dX4_hasOther_41 rfl ?_
          refine aw_istore_n dX4_hasOther_45 rfl (by decide) ?_
          show AW _ mX4_hasOther 46 [_, _, _, _] _ _ _
          refine aw_iinc dX4_hasOther_46 rfl rfl (ii_1 _) (by decide) ?_
          show AW _ mX4_hasOther 49 [_, _, _, _] _ _ _
          refine aw_goto (q := 4) dX4_hasOther_49 rfl ?_
          refine AW.conv nx_4 ?_ rfl rfl
          simp only [nI_succ, anyB_s]
          simp [hs, bB, oB, c13, c24, c37]
set_option maxRecDepth 4000 in
theorem sX4_hasUnfit {d : Nat} {σ : SS} {K : ax_K} {n cn : Nat} (hn : n ≤ 6) (h0 : σ 28 0 0 = nI n) (hc : cn ≤ 4) (hT : okT n cn (σ 44 0)) (hK : K (some (bB (anyB n (uB σ (σ 44 0))))) σ) : AW (d + 2) mX4_hasUnfit 0 (ax_en mX4_hasUnfit [.inr (28, 0)]) [] σ K := by
  show AW _ mX4_hasUnfit 0 [_, _, _] _ _ _
  refine aw_iconst 0 dX4_hasUnfit_0 rfl (by decide) ?_
  refine aw_istore_n dX4_hasUnfit_1 rfl (by decide) ?_
  show AW _ mX4_hasUnfit 2 [_, _, _] _ _ _
  refine aw_iconst 0 dX4_hasUnfit_2 rfl (by decide) ?_
  refine aw_istore_n dX4_hasUnfit_3 rfl (by decide) ?_
  show AW _ mX4_hasUnfit 4 [_, _, _] _ _ _
  refine AW.conv (ax_loop (P := fun i => AW (d + 2) mX4_hasUnfit 4 [some (.inr (28, 0)), some (.inl (bB (anyB i (uB σ (σ 44 0))))), some (.inl (nI i))] [] σ K) n ?_ ?_ 0 (Nat.zero_le _)) (by rw [nI_0, anyB_0]; rfl) rfl rfl
  · try dsimp only
    refine aw_iload_n dX4_hasUnfit_4 rfl rfl ?_
    refine aw_aload_n dX4_hasUnfit_5 rfl rfl ?_
    refine aw_getI dX4_hasUnfit_6 rfl rfl rfl flX4_75 ?_
    refine aw_icmp_ge (tgt := 53) dX4_hasUnfit_9 rfl rfl (fun _ => ?_) (fun z => absurd (by rw [h0]; exact Int32.le_refl _) z)
    refine aw_iload_n dX4_hasUnfit_53 rfl rfl ?_
    refine aw_ret dX4_hasUnfit_54 rfl (bB_nar _) ?_
    exact hK
  · intro i hi_4 nx_4
    try dsimp only at nx_4 ⊢
    have hci : (nI i).toNatClampNeg = i := nI_clamp (by omega)
    refine aw_iload_n dX4_hasUnfit_4 rfl rfl ?_
    refine aw_aload_n dX4_hasUnfit_5 rfl rfl ?_
    refine aw_getI dX4_hasUnfit_6 rfl rfl rfl flX4_75 ?_
    refine aw_icmp_ge (tgt := 53) dX4_hasUnfit_9 rfl rfl (fun z => absurd z (by rw [h0]; exact nI_ge hi_4 (by omega))) (fun _ => ?_)
    refine aw_iload_n dX4_hasUnfit_12 rfl rfl ?_
    refine aw_if_neB (tgt := 41) dX4_hasUnfit_13 rfl rfl (fun c13 => ?_) (fun c13 => ?_)
    · skip
      refine aw_iconst 1 dX4_hasUnfit_41 rfl (by decide) ?_
      refine aw_goto (q := 46) dX4_hasUnfit_42 rfl ?_
      refine aw_istore_n dX4_hasUnfit_46 rfl (by decide) ?_
      show AW _ mX4_hasUnfit 47 [_, _, _] _ _ _
      refine aw_iinc dX4_hasUnfit_47 rfl rfl (ii_1 _) (by decide) ?_
      show AW _ mX4_hasUnfit 50 [_, _, _] _ _ _
      refine aw_goto (q := 4) dX4_hasUnfit_50 rfl ?_
      refine AW.conv nx_4 ?_ rfl rfl
      simp only [nI_succ, anyB_s]
      simp [hs, bB, uB, c13]
    · skip
      refine aw_aload_n dX4_hasUnfit_16 rfl rfl ?_
      refine aw_getR dX4_hasUnfit_17 rfl rfl rfl (by decide) flX4_59 ?_
      refine aw_iload_n dX4_hasUnfit_20 rfl rfl ?_
      refine aw_iald dX4_hasUnfit_21 rfl rfl (by first | exact vp_in_nI (by omega) (by omega) | decide) ?_
      try simp only [hci]
      refine aw_bipush (-9) dX4_hasUnfit_22 rfl (by decide) ?_
      refine aw_icmp_eq (tgt := 45) dX4_hasUnfit_24 rfl rfl (fun c24 => ?_) (fun c24 => ?_)
      · skip
        refine aw_iconst 0 dX4_hasUnfit_45 rfl (by decide) ?_
        refine aw_istore_n dX4_hasUnfit_46 rfl (by decide) ?_
        show AW _ mX4_hasUnfit 47 [_, _, _] _ _ _
        refine aw_iinc dX4_hasUnfit_47 rfl rfl (ii_1 _) (by decide) ?_
        show AW _ mX4_hasUnfit 50 [_, _, _] _ _ _
        refine aw_goto (q := 4) dX4_hasUnfit_50 rfl ?_
        refine AW.conv nx_4 ?_ rfl rfl
        simp only [nI_succ, anyB_s]
        simp [hs, bB, uB, c13, c24]
      · skip
        refine aw_aload_n dX4_hasUnfit_27 rfl rfl ?_
        refine aw_iload_n dX4_hasUnfit_28 rfl rfl ?_
        refine aw_aload_n dX4_hasUnfit_29 rfl rfl ?_
        refine aw_getR dX4_hasUnfit_30 rfl rfl rfl (by decide) flX4_59 ?_
        refine aw_iload_n dX4_hasUnfit_33 rfl rfl ?_
        refine aw_iald dX4_hasUnfit_34 rfl rfl (by first | exact vp_in_nI (by omega) (by omega) | decide) ?_
        try simp only [hci]
        refine aw_V2 (M' := mX4_whyNot) dX4_hasUnfit_35 rfl lkX4_108 gX4_whyNot rfl rfl (Nat.le_of_ble_eq_true rfl) (sX4_whyNotI (vp_in_nI (by omega) (by omega)) (vp_mono ((hT i hi_4).resolve_left c24) hc) ?_)
        rw [ci, hci]
        show AW _ mX4_hasUnfit 38 _ (_ :: _) _ _
        refine aw_if_eq (tgt := 45) dX4_hasUnfit_38 rfl rfl (fun c38 => ?_) (fun c38 => ?_)
        · skip
          refine aw_iconst 0 dX4_hasUnfit_45 rfl (by decide) ?_
          refine aw_istore_n dX4_hasUnfit_46 rfl (by decide) ?_
          show AW _ mX4_hasUnfit 47 [_, _, _] _ _ _
          refine aw_iinc dX4_hasUnfit_47 rfl rfl (ii_1 _) (by decide) ?_
          show AW _ mX4_hasUnfit 50 [_, _, _] _ _ _
          refine aw_goto (q := 4) dX4_hasUnfit_50 rfl ?_
          refine AW.conv nx_4 ?_ rfl rfl
          simp only [nI_succ, anyB_s]
          simp [hs, bB, uB, c13, c24, c38]
        · skip
          refine aw_iconst 1 dX4_hasUnfit_41 rfl (by decide) ?_
          refine aw_goto (q := 46) dX4_hasUnfit_42 rfl ?_
          refine aw_istore_n dX4_hasUnfit_46 rfl (by decide) ?_
          show AW _ mX4_hasUnfit 47 [_, _, _] _ _ _
          refine aw_iinc dX4_hasUnfit_47 rfl rfl (ii_1 _) (by decide) ?_
          show AW _ mX4_hasUnfit 50 [_, _, _] _ _ _
          refine aw_goto (q := 4) dX4_hasUnfit_50 rfl ?_
          refine AW.conv nx_4 ?_ rfl rfl
          simp only [nI_succ, anyB_s]
          simp [hs, bB, uB, c13, c24, c38]
set_option maxRecDepth 4000 in
theorem sX4_hasEmpty {d : Nat} {σ : SS} {K : ax_K} {n : Nat} (hn : n ≤ 6) (h0 : σ 28 0 0 = nI n) (hK : K (some (bB (anyB n (eB (σ 44 0) (σ 45 0))))) σ) : AW d mX4_hasEmpty 0 (ax_en mX4_hasEmpty [.inr (28, 0)]) [] σ K := by
  show AW _ mX4_hasEmpty 0 [_, _, _] _ _ _
  refine aw_iconst 0 dX4_hasEmpty_0 rfl (by decide) ?_
  refine aw_istore_n dX4_hasEmpty_1 rfl (by decide) ?_
  show AW _ mX4_hasEmpty 2 [_, _, _] _ _ _
  refine aw_iconst 0 dX4_hasEmpty_2 rfl (by decide) ?_
  refine aw_istore_n dX4_hasEmpty_3 rfl (by decide) ?_
  show AW _ mX4_hasEmpty 4 [_, _, _] _ _ _
  refine AW.conv (ax_loop (P := fun i => AW d mX4_hasEmpty 4 [some (.inr (28, 0)), some (.inl (bB (anyB i (eB (σ 44 0) (σ 45 0))))), some (.inl (nI i))] [] σ K) n ?_ ?_ 0 (Nat.zero_le _)) (by rw [nI_0, anyB_0]; rfl) rfl rfl
  · try dsimp only
    refine aw_iload_n dX4_hasEmpty_4 rfl rfl ?_
    refine aw_aload_n dX4_hasEmpty_5 rfl rfl ?_
    refine aw_getI dX4_hasEmpty_6 rfl rfl rfl flX4_75 ?_
    refine aw_icmp_ge (tgt := 48) dX4_hasEmpty_9 rfl rfl (fun _ => ?_) (fun z => absurd (by rw [h0]; exact Int32.le_refl _) z)
    refine aw_iload_n dX4_hasEmpty_48 rfl rfl ?_
    refine aw_ret dX4_hasEmpty_49 rfl (bB_nar _) ?_
    exact hK
  · intro i hi_4 nx_4
    try dsimp only at nx_4 ⊢
    have hci : (nI i).toNatClampNeg = i := nI_clamp (by omega)
    refine aw_iload_n dX4_hasEmpty_4 rfl rfl ?_
    refine aw_aload_n dX4_hasEmpty_5 rfl rfl ?_
    refine aw_getI dX4_hasEmpty_6 rfl rfl rfl flX4_75 ?_
    refine aw_icmp_ge (tgt := 48) dX4_hasEmpty_9 rfl rfl (fun z => absurd z (by rw [h0]; exact nI_ge hi_4 (by omega))) (fun _ => ?_)
    refine aw_iload_n dX4_hasEmpty_12 rfl rfl ?_
    refine aw_if_neB (tgt := 36) dX4_hasEmpty_13 rfl rfl (fun c13 => ?_) (fun c13 => ?_)
    · skip
      refine aw_iconst 1 dX4_hasEmpty_36 rfl (by decide) ?_
      refine aw_goto (q := 41) dX4_hasEmpty_37 rfl ?_
      refine aw_istore_n dX4_hasEmpty_41 rfl (by decide) ?_
      show AW _ mX4_hasEmpty 42 [_, _, _] _ _ _
      refine aw_iinc dX4_hasEmpty_42 rfl rfl (ii_1 _) (by decide) ?_
      show AW _ mX4_hasEmpty 45 [_, _, _] _ _ _
      refine aw_goto (q := 4) dX4_hasEmpty_45 rfl ?_
      refine AW.conv nx_4 ?_ rfl rfl
      simp only [nI_succ, anyB_s]
      simp [hs, bB, eB, c13]
    · skip
      refine aw_aload_n dX4_hasEmpty_16 rfl rfl ?_
      refine aw_getR dX4_hasEmpty_17 rfl rfl rfl (by decide) flX4_59 ?_
      refine aw_iload_n dX4_hasEmpty_20 rfl rfl ?_
      refine aw_iald dX4_hasEmpty_21 rfl rfl (by first | exact vp_in_nI (by omega) (by omega) | decide) ?_
      try simp only [hci]
      refine aw_bipush (-9) dX4_hasEmpty_22 rfl (by decide) ?_
      refine aw_icmp_eq (tgt := 40) dX4_hasEmpty_24 rfl rfl (fun c24 => ?_) (fun c24 => ?_)
      · skip
        refine aw_iconst 0 dX4_hasEmpty_40 rfl (by decide) ?_
        refine aw_istore_n dX4_hasEmpty_41 rfl (by decide) ?_
        show AW _ mX4_hasEmpty 42 [_, _, _] _ _ _
        refine aw_iinc dX4_hasEmpty_42 rfl rfl (ii_1 _) (by decide) ?_
        show AW _ mX4_hasEmpty 45 [_, _, _] _ _ _
        refine aw_goto (q := 4) dX4_hasEmpty_45 rfl ?_
        refine AW.conv nx_4 ?_ rfl rfl
        simp only [nI_succ, anyB_s]
        simp [hs, bB, eB, c13, c24]
      · skip
        refine aw_aload_n dX4_hasEmpty_27 rfl rfl ?_
        refine aw_getR dX4_hasEmpty_28 rfl rfl rfl (by decide) flX4_62 ?_
        refine aw_iload_n dX4_hasEmpty_31 rfl rfl ?_
        refine aw_iald dX4_hasEmpty_32 rfl rfl (by first | exact vp_in_nI (by omega) (by omega) | decide) ?_
        try simp only [hci]
        refine aw_if_ne (tgt := 40) dX4_hasEmpty_33 rfl rfl (fun c33 => ?_) (fun c33 => ?_)
        · skip
          refine aw_iconst 0 dX4_hasEmpty_40 rfl (by decide) ?_
          refine aw_istore_n dX4_hasEmpty_41 rfl (by decide) ?_
          show AW _ mX4_hasEmpty 42 [_, _, _] _ _ _
          refine aw_iinc dX4_hasEmpty_42 rfl rfl (ii_1 _) (by decide) ?_
          show AW _ mX4_hasEmpty 45 [_, _, _] _ _ _
          refine aw_goto (q := 4) dX4_hasEmpty_45 rfl ?_
          refine AW.conv nx_4 ?_ rfl rfl
          simp only [nI_succ, anyB_s]
          simp [hs, bB, eB, c13, c24, c33]
        · skip
          refine aw_iconst 1 dX4_hasEmpty_36 rfl (by decide) ?_
          refine aw_goto (q := 41) dX4_hasEmpty_37 rfl ?_
          refine aw_istore_n dX4_hasEmpty_41 rfl (by decide) ?_
          show AW _ mX4_hasEmpty 42 [_, _, _] _ _ _
          refine aw_iinc dX4_hasEmpty_42 rfl rfl (ii_1 _) (by decide) ?_
          show AW _ mX4_hasEmpty 45 [_, _, _] _ _ _
          refine aw_goto (q := 4) dX4_hasEmpty_45 rfl ?_
          refine AW.conv nx_4 ?_ rfl rfl
          simp only [nI_succ, anyB_s]
          simp [hs, bB, eB, c13, c24, c33]
set_option maxRecDepth 4000 in
theorem sX4_hasClash {d : Nat} {σ : SS} {K : ax_K} {n cn : Nat} (hn : n ≤ 6) (h0 : σ 28 0 0 = nI n) (hc : cn ≤ 4) (hT : okT n cn (σ 44 0)) (hK : K (some (bB (anyB n (kA σ (σ 44 0))))) σ) : AW (d + 2) mX4_hasClash 0 (ax_en mX4_hasClash [.inr (28, 0)]) [] σ K := by
  show AW _ mX4_hasClash 0 [_, _, _, _] _ _ _
  refine aw_iconst 0 dX4_hasClash_0 rfl (by decide) ?_
  refine aw_istore_n dX4_hasClash_1 rfl (by decide) ?_
  show AW _ mX4_hasClash 2 [_, _, _, _] _ _ _
  refine aw_iconst 0 dX4_hasClash_2 rfl (by decide) ?_
  refine aw_istore_n dX4_hasClash_3 rfl (by decide) ?_
  show AW _ mX4_hasClash 4 [_, _, _, _] _ _ _
  refine AW.conv (ax_loop (P := fun i => AW (d + 2) mX4_hasClash 4 [some (.inr (28, 0)), some (.inl (bB (anyB i (kA σ (σ 44 0))))), some (.inl (nI i)), none] [] σ K) n ?_ ?_ 0 (Nat.zero_le _)) (by rw [nI_0, anyB_0]; rfl) rfl rfl
  · try dsimp only
    refine aw_iload_n dX4_hasClash_4 rfl rfl ?_
    refine aw_aload_n dX4_hasClash_5 rfl rfl ?_
    refine aw_getI dX4_hasClash_6 rfl rfl rfl flX4_75 ?_
    refine aw_icmp_ge (tgt := 95) dX4_hasClash_9 rfl rfl (fun _ => ?_) (fun z => absurd (by rw [h0]; exact Int32.le_refl _) z)
    refine aw_iload_n dX4_hasClash_95 rfl rfl ?_
    refine aw_ret dX4_hasClash_96 rfl (bB_nar _) ?_
    exact hK
  · intro i hi_4 nx_4
    try dsimp only at nx_4 ⊢
    have hci : (nI i).toNatClampNeg = i := nI_clamp (by omega)
    refine aw_iload_n dX4_hasClash_4 rfl rfl ?_
    refine aw_aload_n dX4_hasClash_5 rfl rfl ?_
    refine aw_getI dX4_hasClash_6 rfl rfl rfl flX4_75 ?_
    refine aw_icmp_ge (tgt := 95) dX4_hasClash_9 rfl rfl (fun z => absurd z (by rw [h0]; exact nI_ge hi_4 (by omega))) (fun _ => ?_)
    refine aw_iconst 0 dX4_hasClash_12 rfl (by decide) ?_
    refine aw_istore_n dX4_hasClash_13 rfl (by decide) ?_
    show AW _ mX4_hasClash 14 [_, _, _, _] _ _ _
    refine AW.conv (ax_loop (P := fun j => AW (d + 2) mX4_hasClash 14 [some (.inr (28, 0)), some (.inl (bB (anyB i (kA σ (σ 44 0)) || anyB j (kB σ (σ 44 0) i)))), some (.inl (nI i)), some (.inl (nI j))] [] σ K) i ?_ ?_ 0 (Nat.zero_le _)) (by simp only [nI_0, anyB_0, Bool.or_false]) rfl rfl
    · try dsimp only
      refine aw_iload_n dX4_hasClash_14 rfl rfl ?_
      refine aw_iload_n dX4_hasClash_15 rfl rfl ?_
      refine aw_icmp_ge (tgt := 89) dX4_hasClash_16 rfl rfl (fun _ => ?_) (fun z => absurd (Int32.le_refl _) z)
      refine aw_iinc dX4_hasClash_89 rfl rfl (ii_1 _) (by decide) ?_
      show AW _ mX4_hasClash 92 [_, _, _, _] _ _ _
      refine aw_goto (q := 4) dX4_hasClash_92 rfl ?_
      refine AW.conv (AW.forget nx_4 (ls := [some (.inr (28, 0)), some (.inl (bB (anyB (i + 1) (kA σ (σ 44 0))))), some (.inl (nI (i + 1))), some (.inl (nI i))]) (fun n v h => by
        match n, h with
        | 0, h => exact h
        | 1, h => exact h
        | 2, h => exact h
        | 3, h => cases h
        | n + 4, h => simp at h)) ?_ rfl rfl
      simp only [nI_succ, anyB_s, kA]
    · intro j hi_14 nx_14
      try dsimp only at nx_14 ⊢
      have hcj : (nI j).toNatClampNeg = j := nI_clamp (by omega)
      refine aw_iload_n dX4_hasClash_14 rfl rfl ?_
      refine aw_iload_n dX4_hasClash_15 rfl rfl ?_
      refine aw_icmp_ge (tgt := 89) dX4_hasClash_16 rfl rfl (fun z => absurd z (nI_ge hi_14 (by omega))) (fun _ => ?_)
      refine aw_iload_n dX4_hasClash_19 rfl rfl ?_
      refine aw_if_neB (tgt := 77) dX4_hasClash_20 rfl rfl (fun c20 => ?_) (fun c20 => ?_)
      · skip
        refine aw_iconst 1 dX4_hasClash_77 rfl (by decide) ?_
        refine aw_goto (q := 82) dX4_hasClash_78 rfl ?_
        refine aw_istore_n dX4_hasClash_82 rfl (by decide) ?_
        show AW _ mX4_hasClash 83 [_, _, _, _] _ _ _
        refine aw_iinc dX4_hasClash_83 rfl rfl (ii_1 _) (by decide) ?_
        show AW _ mX4_hasClash 86 [_, _, _, _] _ _ _
        refine aw_goto (q := 14) dX4_hasClash_86 rfl ?_
        refine AW.conv nx_14 ?_ rfl rfl
        simp only [nI_succ, anyB_s]
        rw [← Bool.or_assoc]
        simp [hs, bB, kB, c20]
      · skip
        refine aw_aload_n dX4_hasClash_23 rfl rfl ?_
        refine aw_getR dX4_hasClash_24 rfl rfl rfl (by decide) flX4_19 ?_
        refine aw_iload_n dX4_hasClash_27 rfl rfl ?_
        refine aw_iald dX4_hasClash_28 rfl rfl (by first | exact vp_in_nI (by omega) (by omega) | decide) ?_
        try simp only [hci]
        try simp only [hcj]
        refine aw_iload_n dX4_hasClash_29 rfl rfl ?_
        refine aw_S2 (M' := mX4_has) dX4_hasClash_30 rfl lkX4_86 gX4_has (Nat.le_of_ble_eq_true rfl) (sX4_has ?_)
        show AW _ mX4_hasClash 33 _ (_ :: _) _ _
        refine aw_if_eqB (tgt := 81) dX4_hasClash_33 rfl rfl (fun c33 => ?_) (fun c33 => ?_)
        · skip
          refine aw_iconst 0 dX4_hasClash_81 rfl (by decide) ?_
          refine aw_istore_n dX4_hasClash_82 rfl (by decide) ?_
          show AW _ mX4_hasClash 83 [_, _, _, _] _ _ _
          refine aw_iinc dX4_hasClash_83 rfl rfl (ii_1 _) (by decide) ?_
          show AW _ mX4_hasClash 86 [_, _, _, _] _ _ _
          refine aw_goto (q := 14) dX4_hasClash_86 rfl ?_
          refine AW.conv nx_14 ?_ rfl rfl
          simp only [nI_succ, anyB_s]
          rw [← Bool.or_assoc]
          simp [hs, bB, kB, c20, c33]
        · skip
          refine aw_aload_n dX4_hasClash_36 rfl rfl ?_
          refine aw_getR dX4_hasClash_37 rfl rfl rfl (by decide) flX4_59 ?_
          refine aw_iload_n dX4_hasClash_40 rfl rfl ?_
          refine aw_iald dX4_hasClash_41 rfl rfl (by first | exact vp_in_nI (by omega) (by omega) | decide) ?_
          try simp only [hci]
          try simp only [hcj]
          refine aw_bipush (-9) dX4_hasClash_42 rfl (by decide) ?_
          refine aw_icmp_eq (tgt := 81) dX4_hasClash_44 rfl rfl (fun c44 => ?_) (fun c44 => ?_)
          · skip
            refine aw_iconst 0 dX4_hasClash_81 rfl (by decide) ?_
            refine aw_istore_n dX4_hasClash_82 rfl (by decide) ?_
            show AW _ mX4_hasClash 83 [_, _, _, _] _ _ _
            refine aw_iinc dX4_hasClash_83 rfl rfl (ii_1 _) (by decide) ?_
            show AW _ mX4_hasClash 86 [_, _, _, _] _ _ _
            refine aw_goto (q := 14) dX4_hasClash_86 rfl ?_
            refine AW.conv nx_14 ?_ rfl rfl
            simp only [nI_succ, anyB_s]
            rw [← Bool.or_assoc]
            simp [hs, bB, kB, c20, c33, c44]
          · skip
            refine aw_aload_n dX4_hasClash_47 rfl rfl ?_
            refine aw_getR dX4_hasClash_48 rfl rfl rfl (by decide) flX4_59 ?_
            refine aw_iload_n dX4_hasClash_51 rfl rfl ?_
            refine aw_iald dX4_hasClash_52 rfl rfl (by first | exact vp_in_nI (by omega) (by omega) | decide) ?_
            try simp only [hci]
            try simp only [hcj]
            refine aw_bipush (-9) dX4_hasClash_53 rfl (by decide) ?_
            refine aw_icmp_eq (tgt := 81) dX4_hasClash_55 rfl rfl (fun c55 => ?_) (fun c55 => ?_)
            · skip
              refine aw_iconst 0 dX4_hasClash_81 rfl (by decide) ?_
              refine aw_istore_n dX4_hasClash_82 rfl (by decide) ?_
              show AW _ mX4_hasClash 83 [_, _, _, _] _ _ _
              refine aw_iinc dX4_hasClash_83 rfl rfl (ii_1 _) (by decide) ?_
              show AW _ mX4_hasClash 86 [_, _, _, _] _ _ _
              refine aw_goto (q := 14) dX4_hasClash_86 rfl ?_
              refine AW.conv nx_14 ?_ rfl rfl
              simp only [nI_succ, anyB_s]
              rw [← Bool.or_assoc]
              simp [hs, bB, kB, c20, c33, c44, c55]
            · skip
              refine aw_aload_n dX4_hasClash_58 rfl rfl ?_
              refine aw_aload_n dX4_hasClash_59 rfl rfl ?_
              refine aw_getR dX4_hasClash_60 rfl rfl rfl (by decide) flX4_59 ?_
              refine aw_iload_n dX4_hasClash_63 rfl rfl ?_
              refine aw_iald dX4_hasClash_64 rfl rfl (by first | exact vp_in_nI (by omega) (by omega) | decide) ?_
              try simp only [hci]
              try simp only [hcj]
              refine aw_aload_n dX4_hasClash_65 rfl rfl ?_
              refine aw_getR dX4_hasClash_66 rfl rfl rfl (by decide) flX4_59 ?_
              refine aw_iload_n dX4_hasClash_69 rfl rfl ?_
              refine aw_iald dX4_hasClash_70 rfl rfl (by first | exact vp_in_nI (by omega) (by omega) | decide) ?_
              try simp only [hci]
              try simp only [hcj]
              refine aw_V2 (M' := mX4_doClash) dX4_hasClash_71 rfl lkX4_105 gX4_doClash rfl rfl (Nat.le_of_ble_eq_true rfl) (sX4_doClashI (vp_mono ((hT i hi_4).resolve_left c44) hc) (vp_mono ((hT j (by omega)).resolve_left c55) hc) ?_)
              show AW _ mX4_hasClash 74 _ (_ :: _) _ _
              refine aw_if_eqB (tgt := 81) dX4_hasClash_74 rfl rfl (fun c74 => ?_) (fun c74 => ?_)
              · skip
                refine aw_iconst 0 dX4_hasClash_81 rfl (by decide) ?_
                refine aw_istore_n dX4_hasClash_82 rfl (by decide) ?_
                show AW _ mX4_hasClash 83 [_, _, _, _] _ _ _
                refine aw_iinc dX4_hasClash_83 rfl rfl (ii_1 _) (by decide) ?_
                show AW _ mX4_hasClash 86 [_, _, _, _] _ _ _
                refine aw_goto (q := 14) dX4_hasClash_86 rfl ?_
                refine AW.conv nx_14 ?_ rfl rfl
                simp only [nI_succ, anyB_s]
                rw [← Bool.or_assoc]
                simp [hs, bB, kB, c20, c33, c44, c55, c74]
              · skip
                refine aw_iconst 1 dX4_hasClash_77 rfl (by decide) ?_
                refine aw_goto (q := 82) dX4_hasClash_78 rfl ?_
                refine aw_istore_n dX4_hasClash_82 rfl (by decide) ?_
                show AW _ mX4_hasClash 83 [_, _, _, _] _ _ _
                refine aw_iinc dX4_hasClash_83 rfl rfl (ii_1 _) (by decide) ?_
                show AW _ mX4_hasClash 86 [_, _, _, _] _ _ _
                refine aw_goto (q := 14) dX4_hasClash_86 rfl ?_
                refine AW.conv nx_14 ?_ rfl rfl
                simp only [nI_succ, anyB_s]
                rw [← Bool.or_assoc]
                simp [hs, bB, kB, c20, c33, c44, c55, c74]
set_option maxRecDepth 4000 in
theorem sX4_hasTooMuch {d : Nat} {σ : SS} {K : ax_K} {v : Int32} {n cn : Nat} (hn : n ≤ 6) (h0 : σ 28 0 0 = nI n) (hc : cn ≤ 4) (h9 : σ 28 0 9 = nI cn) (hK : K (some (bB (anyB cn (mB σ (σ 44 0) n v)))) σ) : AW (d + 1) mX4_hasTooMuch 0 (ax_en mX4_hasTooMuch [.inr (28, 0), .inl v]) [] σ K := by
  show AW _ mX4_hasTooMuch 0 [_, _, _, _, _, _] _ _ _
  refine aw_iconst 0 dX4_hasTooMuch_0 rfl (by decide) ?_
  refine aw_istore_n dX4_hasTooMuch_1 rfl (by decide) ?_
  show AW _ mX4_hasTooMuch 2 [_, _, _, _, _, _] _ _ _
  refine aw_iconst 0 dX4_hasTooMuch_2 rfl (by decide) ?_
  refine aw_istore_n dX4_hasTooMuch_3 rfl (by decide) ?_
  show AW _ mX4_hasTooMuch 4 [_, _, _, _, _, _] _ _ _
  refine AW.conv (ax_loop (P := fun i => AW (d + 1) mX4_hasTooMuch 4 [some (.inr (28, 0)), some (.inl v), some (.inl (bB (anyB i (mB σ (σ 44 0) n v)))), some (.inl (nI i)), none, none] [] σ K) cn ?_ ?_ 0 (Nat.zero_le _)) (by rw [nI_0, anyB_0]; rfl) rfl rfl
  · try dsimp only
    refine aw_iload_n dX4_hasTooMuch_4 rfl rfl ?_
    refine aw_aload_n dX4_hasTooMuch_5 rfl rfl ?_
    refine aw_getI dX4_hasTooMuch_6 rfl rfl rfl flX4_92 ?_
    refine aw_icmp_ge (tgt := 95) dX4_hasTooMuch_9 rfl rfl (fun _ => ?_) (fun z => absurd (by rw [h9]; exact Int32.le_refl _) z)
    refine aw_iload_n dX4_hasTooMuch_95 rfl rfl ?_
    refine aw_ret dX4_hasTooMuch_96 rfl (bB_nar _) ?_
    exact hK
  · intro i hi_4 nx_4
    try dsimp only at nx_4 ⊢
    have hci : (nI i).toNatClampNeg = i := nI_clamp (by omega)
    refine aw_iload_n dX4_hasTooMuch_4 rfl rfl ?_
    refine aw_aload_n dX4_hasTooMuch_5 rfl rfl ?_
    refine aw_getI dX4_hasTooMuch_6 rfl rfl rfl flX4_92 ?_
    refine aw_icmp_ge (tgt := 95) dX4_hasTooMuch_9 rfl rfl (fun z => absurd z (by rw [h9]; exact nI_ge hi_4 (by omega))) (fun _ => ?_)
    refine aw_iconst 0 dX4_hasTooMuch_12 rfl (by decide) ?_
    refine aw_istore dX4_hasTooMuch_13 rfl (by decide) ?_
    show AW _ mX4_hasTooMuch 15 [_, _, _, _, _, _] _ _ _
    refine aw_iconst 0 dX4_hasTooMuch_15 rfl (by decide) ?_
    refine aw_istore dX4_hasTooMuch_16 rfl (by decide) ?_
    show AW _ mX4_hasTooMuch 18 [_, _, _, _, _, _] _ _ _
    refine AW.conv (ax_loop (P := fun j => AW (d + 1) mX4_hasTooMuch 18 [some (.inr (28, 0)), some (.inl v), some (.inl (bB (anyB i (mB σ (σ 44 0) n v)))), some (.inl (nI i)), some (.inl (vS σ (σ 44 0) i j)), some (.inl (nI j))] [] σ K) n ?_ ?_ 0 (Nat.zero_le _)) (by simp only [nI_0, vS, lp_0]) rfl rfl
    · try dsimp only
      refine aw_iload dX4_hasTooMuch_18 rfl rfl ?_
      refine aw_aload_n dX4_hasTooMuch_20 rfl rfl ?_
      refine aw_getI dX4_hasTooMuch_21 rfl rfl rfl flX4_75 ?_
      refine aw_icmp_ge (tgt := 60) dX4_hasTooMuch_24 rfl rfl (fun _ => ?_) (fun z => absurd (by rw [h0]; exact Int32.le_refl _) z)
      refine aw_iload_n dX4_hasTooMuch_60 rfl rfl ?_
      refine aw_if_neB (tgt := 83) dX4_hasTooMuch_61 rfl rfl (fun c61 => ?_) (fun c61 => ?_)
      · skip
        try replace c80 := Int32.not_le.mp c80
        refine aw_iconst 1 dX4_hasTooMuch_83 rfl (by decide) ?_
        refine aw_goto (q := 88) dX4_hasTooMuch_84 rfl ?_
        refine aw_istore_n dX4_hasTooMuch_88 rfl (by decide) ?_
        show AW _ mX4_hasTooMuch 89 [_, _, _, _, _, _] _ _ _
        refine aw_iinc dX4_hasTooMuch_89 rfl rfl (ii_1 _) (by decide) ?_
        show AW _ mX4_hasTooMuch 92 [_, _, _, _, _, _] _ _ _
        refine aw_goto (q := 4) dX4_hasTooMuch_92 rfl ?_
        refine AW.conv (AW.forget nx_4 (ls := [some (.inr (28, 0)), some (.inl v), some (.inl (bB (anyB (i + 1) (mB σ (σ 44 0) n v)))), some (.inl (nI (i + 1))), some (.inl (vS σ (σ 44 0) i n)), some (.inl (nI n))]) (fun n v h => by
          match n, h with
          | 0, h => exact h
          | 1, h => exact h
          | 2, h => exact h
          | 3, h => exact h
          | 4, h => cases h
          | 5, h => cases h
          | n + 6, h => simp at h)) ?_ rfl rfl
        simp only [nI_succ, anyB_s]
        simp [hs, bB, mB, c61]
      · skip
        refine aw_iload_n dX4_hasTooMuch_64 rfl rfl ?_
        refine aw_iload_n dX4_hasTooMuch_65 rfl rfl ?_
        refine aw_S2 (M' := mX4_has) dX4_hasTooMuch_66 rfl lkX4_86 gX4_has (Nat.le_of_ble_eq_true rfl) (sX4_has ?_)
        show AW _ mX4_hasTooMuch 69 _ (_ :: _) _ _
        refine aw_if_eqB (tgt := 87) dX4_hasTooMuch_69 rfl rfl (fun c69 => ?_) (fun c69 => ?_)
        · skip
          try replace c80 := Int32.not_lt.mpr c80
          refine aw_iconst 0 dX4_hasTooMuch_87 rfl (by decide) ?_
          refine aw_istore_n dX4_hasTooMuch_88 rfl (by decide) ?_
          show AW _ mX4_hasTooMuch 89 [_, _, _, _, _, _] _ _ _
          refine aw_iinc dX4_hasTooMuch_89 rfl rfl (ii_1 _) (by decide) ?_
          show AW _ mX4_hasTooMuch 92 [_, _, _, _, _, _] _ _ _
          refine aw_goto (q := 4) dX4_hasTooMuch_92 rfl ?_
          refine AW.conv (AW.forget nx_4 (ls := [some (.inr (28, 0)), some (.inl v), some (.inl (bB (anyB (i + 1) (mB σ (σ 44 0) n v)))), some (.inl (nI (i + 1))), some (.inl (vS σ (σ 44 0) i n)), some (.inl (nI n))]) (fun n v h => by
            match n, h with
            | 0, h => exact h
            | 1, h => exact h
            | 2, h => exact h
            | 3, h => exact h
            | 4, h => cases h
            | 5, h => cases h
            | n + 6, h => simp at h)) ?_ rfl rfl
          simp only [nI_succ, anyB_s]
          simp [hs, bB, mB, c61, c69]
        · skip
          refine aw_iload dX4_hasTooMuch_72 rfl rfl ?_
          refine aw_aload_n dX4_hasTooMuch_74 rfl rfl ?_
          refine aw_getR dX4_hasTooMuch_75 rfl rfl rfl (by decide) flX4_37 ?_
          refine aw_iload_n dX4_hasTooMuch_78 rfl rfl ?_
          refine aw_iald dX4_hasTooMuch_79 rfl rfl (by first | exact vp_in_nI (by omega) (by omega) | decide) ?_
          try simp only [hci]
          try simp only [hcj]
          refine aw_icmp_ge (tgt := 87) dX4_hasTooMuch_80 rfl rfl (fun c80 => ?_) (fun c80 => ?_)
          · skip
            try replace c80 := Int32.not_lt.mpr c80
            refine aw_iconst 0 dX4_hasTooMuch_87 rfl (by decide) ?_
            refine aw_istore_n dX4_hasTooMuch_88 rfl (by decide) ?_
            show AW _ mX4_hasTooMuch 89 [_, _, _, _, _, _] _ _ _
            refine aw_iinc dX4_hasTooMuch_89 rfl rfl (ii_1 _) (by decide) ?_
            show AW _ mX4_hasTooMuch 92 [_, _, _, _, _, _] _ _ _
            refine aw_goto (q := 4) dX4_hasTooMuch_92 rfl ?_
            refine AW.conv (AW.forget nx_4 (ls := [some (.inr (28, 0)), some (.inl v), some (.inl (bB (anyB (i + 1) (mB σ (σ 44 0) n v)))), some (.inl (nI (i + 1))), some (.inl (vS σ (σ 44 0) i n)), some (.inl (nI n))]) (fun n v h => by
              match n, h with
              | 0, h => exact h
              | 1, h => exact h
              | 2, h => exact h
              | 3, h => exact h
              | 4, h => cases h
              | 5, h => cases h
              | n + 6, h => simp at h)) ?_ rfl rfl
            simp only [nI_succ, anyB_s]
            simp [hs, bB, mB, c61, c69, c80]
          · skip
            try replace c80 := Int32.not_le.mp c80
            refine aw_iconst 1 dX4_hasTooMuch_83 rfl (by decide) ?_
            refine aw_goto (q := 88) dX4_hasTooMuch_84 rfl ?_
            refine aw_istore_n dX4_hasTooMuch_88 rfl (by decide) ?_
            show AW _ mX4_hasTooMuch 89 [_, _, _, _, _, _] _ _ _
            refine aw_iinc dX4_hasTooMuch_89 rfl rfl (ii_1 _) (by decide) ?_
            show AW _ mX4_hasTooMuch 92 [_, _, _, _, _, _] _ _ _
            refine aw_goto (q := 4) dX4_hasTooMuch_92 rfl ?_
            refine AW.conv (AW.forget nx_4 (ls := [some (.inr (28, 0)), some (.inl v), some (.inl (bB (anyB (i + 1) (mB σ (σ 44 0) n v)))), some (.inl (nI (i + 1))), some (.inl (vS σ (σ 44 0) i n)), some (.inl (nI n))]) (fun n v h => by
              match n, h with
              | 0, h => exact h
              | 1, h => exact h
              | 2, h => exact h
              | 3, h => exact h
              | 4, h => cases h
              | 5, h => cases h
              | n + 6, h => simp at h)) ?_ rfl rfl
            simp only [nI_succ, anyB_s]
            simp [hs, bB, mB, c61, c69, c80]
    · intro j hi_18 nx_18
      try dsimp only at nx_18 ⊢
      have hcj : (nI j).toNatClampNeg = j := nI_clamp (by omega)
      refine aw_iload dX4_hasTooMuch_18 rfl rfl ?_
      refine aw_aload_n dX4_hasTooMuch_20 rfl rfl ?_
      refine aw_getI dX4_hasTooMuch_21 rfl rfl rfl flX4_75 ?_
      refine aw_icmp_ge (tgt := 60) dX4_hasTooMuch_24 rfl rfl (fun z => absurd z (by rw [h0]; exact nI_ge hi_18 (by omega))) (fun _ => ?_)
      refine aw_iload dX4_hasTooMuch_27 rfl rfl ?_
      refine aw_aload_n dX4_hasTooMuch_29 rfl rfl ?_
      refine aw_getR dX4_hasTooMuch_30 rfl rfl rfl (by decide) flX4_59 ?_
      refine aw_iload dX4_hasTooMuch_33 rfl rfl ?_
      refine aw_iald dX4_hasTooMuch_35 rfl rfl (by first | exact vp_in_nI (by omega) (by omega) | decide) ?_
      try simp only [hci]
      try simp only [hcj]
      refine aw_iload_n dX4_hasTooMuch_36 rfl rfl ?_
      refine aw_icmp_ne (tgt := 50) dX4_hasTooMuch_37 rfl rfl (fun c37 => ?_) (fun c37 => ?_)
      · skip
        refine aw_iconst 0 dX4_hasTooMuch_50 rfl (by decide) ?_
        refine aw_iadd dX4_hasTooMuch_51 rfl ?_
        refine aw_istore dX4_hasTooMuch_52 rfl (by decide) ?_
        show AW _ mX4_hasTooMuch 54 [_, _, _, _, _, _] _ _ _
        refine aw_iinc dX4_hasTooMuch_54 rfl rfl (ii_1 _) (by decide) ?_
        show AW _ mX4_hasTooMuch 57 [_, _, _, _, _, _] _ _ _
        refine aw_goto (q := 18) dX4_hasTooMuch_57 rfl ?_
        refine AW.conv nx_18 ?_ rfl rfl
        simp only [nI_succ, vS_s]
        simp [hs, c37]
      · skip
        refine aw_aload_n dX4_hasTooMuch_40 rfl rfl ?_
        refine aw_getR dX4_hasTooMuch_41 rfl rfl rfl (by decide) flX4_7 ?_
        refine aw_iload dX4_hasTooMuch_44 rfl rfl ?_
        refine aw_iald dX4_hasTooMuch_46 rfl rfl (by first | exact vp_in_nI (by omega) (by omega) | decide) ?_
        try simp only [hci]
        try simp only [hcj]
        refine aw_goto (q := 51) dX4_hasTooMuch_47 rfl ?_
        refine aw_iadd dX4_hasTooMuch_51 rfl ?_
        refine aw_istore dX4_hasTooMuch_52 rfl (by decide) ?_
        show AW _ mX4_hasTooMuch 54 [_, _, _, _, _, _] _ _ _
        refine aw_iinc dX4_hasTooMuch_54 rfl rfl (ii_1 _) (by decide) ?_
        show AW _ mX4_hasTooMuch 57 [_, _, _, _, _, _] _ _ _
        refine aw_goto (q := 18) dX4_hasTooMuch_57 rfl ?_
        refine AW.conv nx_18 ?_ rfl rfl
        simp only [nI_succ, vS_s]
        simp [hs, c37]
set_option maxRecDepth 4000 in
theorem sX4_usedOf {d : Nat} {σ : SS} {K : ax_K} {n : Nat} (hn : n ≤ 6) (h0 : σ 28 0 0 = nI n) (hK : K (some (usS (σ 44 0) n)) σ) : AW d mX4_usedOf 0 (ax_en mX4_usedOf [.inr (28, 0)]) [] σ K := by
  show AW _ mX4_usedOf 0 [_, _, _] _ _ _
  refine aw_iconst 0 dX4_usedOf_0 rfl (by decide) ?_
  refine aw_istore_n dX4_usedOf_1 rfl (by decide) ?_
  show AW _ mX4_usedOf 2 [_, _, _] _ _ _
  refine aw_iconst 0 dX4_usedOf_2 rfl (by decide) ?_
  refine aw_istore_n dX4_usedOf_3 rfl (by decide) ?_
  show AW _ mX4_usedOf 4 [_, _, _] _ _ _
  refine AW.conv (ax_loop (P := fun i => AW d mX4_usedOf 4 [some (.inr (28, 0)), some (.inl (usS (σ 44 0) i)), some (.inl (nI i))] [] σ K) n ?_ ?_ 0 (Nat.zero_le _)) (by first | (simp only [nI_0]; done) | (simp only [nI_0]; rfl)) rfl rfl
  · try dsimp only
    refine aw_iload_n dX4_usedOf_4 rfl rfl ?_
    refine aw_aload_n dX4_usedOf_5 rfl rfl ?_
    refine aw_getI dX4_usedOf_6 rfl rfl rfl flX4_75 ?_
    refine aw_icmp_ge (tgt := 37) dX4_usedOf_9 rfl rfl (fun _ => ?_) (fun z => absurd (by rw [h0]; exact Int32.le_refl _) z)
    refine aw_iload_n dX4_usedOf_37 rfl rfl ?_
    refine aw_ret dX4_usedOf_38 rfl rfl ?_
    exact hK
  · intro i hi_4 nx_4
    try dsimp only at nx_4 ⊢
    have hci : (nI i).toNatClampNeg = i := nI_clamp (by omega)
    refine aw_iload_n dX4_usedOf_4 rfl rfl ?_
    refine aw_aload_n dX4_usedOf_5 rfl rfl ?_
    refine aw_getI dX4_usedOf_6 rfl rfl rfl flX4_75 ?_
    refine aw_icmp_ge (tgt := 37) dX4_usedOf_9 rfl rfl (fun z => absurd z (by rw [h0]; exact nI_ge hi_4 (by omega))) (fun _ => ?_)
    refine aw_iload_n dX4_usedOf_12 rfl rfl ?_
    refine aw_aload_n dX4_usedOf_13 rfl rfl ?_
    refine aw_getR dX4_usedOf_14 rfl rfl rfl (by decide) flX4_59 ?_
    refine aw_iload_n dX4_usedOf_17 rfl rfl ?_
    refine aw_iald dX4_usedOf_18 rfl rfl (by first | exact vp_in_nI (by omega) (by omega) | decide) ?_
    try simp only [hci]
    refine aw_bipush (-9) dX4_usedOf_19 rfl (by decide) ?_
    refine aw_icmp_ne (tgt := 28) dX4_usedOf_21 rfl rfl (fun c21 => ?_) (fun c21 => ?_)
    · skip
      refine aw_iconst 1 dX4_usedOf_28 rfl (by decide) ?_
      refine aw_iadd dX4_usedOf_29 rfl ?_
      refine aw_istore_n dX4_usedOf_30 rfl (by decide) ?_
      show AW _ mX4_usedOf 31 [_, _, _] _ _ _
      refine aw_iinc dX4_usedOf_31 rfl rfl (ii_1 _) (by decide) ?_
      show AW _ mX4_usedOf 34 [_, _, _] _ _ _
      refine aw_goto (q := 4) dX4_usedOf_34 rfl ?_
      refine AW.conv nx_4 ?_ rfl rfl
      simp only [nI_succ, usS_s]
      simp [c21]
    · skip
      refine aw_iconst 0 dX4_usedOf_24 rfl (by decide) ?_
      refine aw_goto (q := 29) dX4_usedOf_25 rfl ?_
      refine aw_iadd dX4_usedOf_29 rfl ?_
      refine aw_istore_n dX4_usedOf_30 rfl (by decide) ?_
      show AW _ mX4_usedOf 31 [_, _, _] _ _ _
      refine aw_iinc dX4_usedOf_31 rfl rfl (ii_1 _) (by decide) ?_
      show AW _ mX4_usedOf 34 [_, _, _] _ _ _
      refine aw_goto (q := 4) dX4_usedOf_34 rfl ?_
      refine AW.conv nx_4 ?_ rfl rfl
      simp only [nI_succ, usS_s]
      simp [c21]
set_option maxRecDepth 4000 in
theorem sX4_costOf {d : Nat} {σ : SS} {K : ax_K} {n cn : Nat} (hn : n ≤ 6) (h0 : σ 28 0 0 = nI n) (hc : cn ≤ 4) (hT : okT n cn (σ 44 0)) (hLat : ∀ x, x < 18 → lt9 (σ 33 0 x)) (hLiq : ∀ c, c < 4 → ∃ j, j < 8 ∧ σ 37 0 c = nI j) (hK : K (some (coS σ (σ 44 0) n)) σ) : AW (d + 1) mX4_costOf 0 (ax_en mX4_costOf [.inr (28, 0)]) [] σ K := by
  show AW _ mX4_costOf 0 [_, _, _] _ _ _
  refine aw_iconst 0 dX4_costOf_0 rfl (by decide) ?_
  refine aw_istore_n dX4_costOf_1 rfl (by decide) ?_
  show AW _ mX4_costOf 2 [_, _, _] _ _ _
  refine aw_iconst 0 dX4_costOf_2 rfl (by decide) ?_
  refine aw_istore_n dX4_costOf_3 rfl (by decide) ?_
  show AW _ mX4_costOf 4 [_, _, _] _ _ _
  refine AW.conv (ax_loop (P := fun i => AW (d + 1) mX4_costOf 4 [some (.inr (28, 0)), some (.inl (coS σ (σ 44 0) i)), some (.inl (nI i))] [] σ K) n ?_ ?_ 0 (Nat.zero_le _)) (by first | (simp only [nI_0]; done) | (simp only [nI_0]; rfl)) rfl rfl
  · try dsimp only
    refine aw_iload_n dX4_costOf_4 rfl rfl ?_
    refine aw_aload_n dX4_costOf_5 rfl rfl ?_
    refine aw_getI dX4_costOf_6 rfl rfl rfl flX4_75 ?_
    refine aw_icmp_ge (tgt := 47) dX4_costOf_9 rfl rfl (fun _ => ?_) (fun z => absurd (by rw [h0]; exact Int32.le_refl _) z)
    refine aw_iload_n dX4_costOf_47 rfl rfl ?_
    refine aw_ret dX4_costOf_48 rfl rfl ?_
    exact hK
  · intro i hi_4 nx_4
    try dsimp only at nx_4 ⊢
    have hci : (nI i).toNatClampNeg = i := nI_clamp (by omega)
    refine aw_iload_n dX4_costOf_4 rfl rfl ?_
    refine aw_aload_n dX4_costOf_5 rfl rfl ?_
    refine aw_getI dX4_costOf_6 rfl rfl rfl flX4_75 ?_
    refine aw_icmp_ge (tgt := 47) dX4_costOf_9 rfl rfl (fun z => absurd z (by rw [h0]; exact nI_ge hi_4 (by omega))) (fun _ => ?_)
    refine aw_iload_n dX4_costOf_12 rfl rfl ?_
    refine aw_aload_n dX4_costOf_13 rfl rfl ?_
    refine aw_getR dX4_costOf_14 rfl rfl rfl (by decide) flX4_59 ?_
    refine aw_iload_n dX4_costOf_17 rfl rfl ?_
    refine aw_iald dX4_costOf_18 rfl rfl (by first | exact vp_in_nI (by omega) (by omega) | decide) ?_
    try simp only [hci]
    refine aw_bipush (-9) dX4_costOf_19 rfl (by decide) ?_
    refine aw_icmp_ne (tgt := 28) dX4_costOf_21 rfl rfl (fun c21 => ?_) (fun c21 => ?_)
    · skip
      refine aw_aload_n dX4_costOf_28 rfl rfl ?_
      refine aw_iload_n dX4_costOf_29 rfl rfl ?_
      refine aw_aload_n dX4_costOf_30 rfl rfl ?_
      refine aw_getR dX4_costOf_31 rfl rfl rfl (by decide) flX4_59 ?_
      refine aw_iload_n dX4_costOf_34 rfl rfl ?_
      refine aw_iald dX4_costOf_35 rfl rfl (by first | exact vp_in_nI (by omega) (by omega) | decide) ?_
      try simp only [hci]
      refine aw_V2 (M' := mX4_washesFor) dX4_costOf_36 rfl lkX4_118 gX4_washesFor rfl rfl (Nat.le_of_ble_eq_true rfl) (sX4_washesForI (vp_in_nI (by omega) (by omega)) (vp_mono ((hT i hi_4).resolve_left c21) hc) (hLat _ (by rw [ci, hci]; omega)) (hLiq _ (vp_lt (vp_mono ((hT i hi_4).resolve_left c21) hc))) ?_)
      rw [ci, hci]
      show AW _ mX4_costOf 39 _ (_ :: _) _ _
      refine aw_iadd dX4_costOf_39 rfl ?_
      refine aw_istore_n dX4_costOf_40 rfl (by decide) ?_
      show AW _ mX4_costOf 41 [_, _, _] _ _ _
      refine aw_iinc dX4_costOf_41 rfl rfl (ii_1 _) (by decide) ?_
      show AW _ mX4_costOf 44 [_, _, _] _ _ _
      refine aw_goto (q := 4) dX4_costOf_44 rfl ?_
      refine AW.conv nx_4 ?_ rfl rfl
      simp only [nI_succ, coS_s]
      simp [c21]
    · skip
      refine aw_iconst 0 dX4_costOf_24 rfl (by decide) ?_
      refine aw_goto (q := 39) dX4_costOf_25 rfl ?_
      refine aw_iadd dX4_costOf_39 rfl ?_
      refine aw_istore_n dX4_costOf_40 rfl (by decide) ?_
      show AW _ mX4_costOf 41 [_, _, _] _ _ _
      refine aw_iinc dX4_costOf_41 rfl rfl (ii_1 _) (by decide) ?_
      show AW _ mX4_costOf 44 [_, _, _] _ _ _
      refine aw_goto (q := 4) dX4_costOf_44 rfl ?_
      refine AW.conv nx_4 ?_ rfl rfl
      simp only [nI_succ, coS_s]
      simp [c21]
set_option maxRecDepth 4000 in
theorem sX4_amountsOf {d : Nat} {σ : SS} {K : ax_K} {v : Int32} {cn : Nat} (hc : cn ≤ 4) (h9 : σ 28 0 9 = nI cn) (hK : K (some (amS σ v cn)) σ) : AW (d + 1) mX4_amountsOf 0 (ax_en mX4_amountsOf [.inr (28, 0), .inl v]) [] σ K := by
  show AW _ mX4_amountsOf 0 [_, _, _, _] _ _ _
  refine aw_iconst 0 dX4_amountsOf_0 rfl (by decide) ?_
  refine aw_istore_n dX4_amountsOf_1 rfl (by decide) ?_
  show AW _ mX4_amountsOf 2 [_, _, _, _] _ _ _
  refine aw_iconst 0 dX4_amountsOf_2 rfl (by decide) ?_
  refine aw_istore_n dX4_amountsOf_3 rfl (by decide) ?_
  show AW _ mX4_amountsOf 4 [_, _, _, _] _ _ _
  refine AW.conv (ax_loop (P := fun i => AW (d + 1) mX4_amountsOf 4 [some (.inr (28, 0)), some (.inl v), some (.inl (amS σ v i)), some (.inl (nI i))] [] σ K) cn ?_ ?_ 0 (Nat.zero_le _)) (by first | (simp only [nI_0]; done) | (simp only [nI_0]; rfl)) rfl rfl
  · try dsimp only
    refine aw_iload_n dX4_amountsOf_4 rfl rfl ?_
    refine aw_aload_n dX4_amountsOf_5 rfl rfl ?_
    refine aw_getI dX4_amountsOf_6 rfl rfl rfl flX4_92 ?_
    refine aw_icmp_ge (tgt := 39) dX4_amountsOf_9 rfl rfl (fun _ => ?_) (fun z => absurd (by rw [h9]; exact Int32.le_refl _) z)
    refine aw_iload_n dX4_amountsOf_39 rfl rfl ?_
    refine aw_ret dX4_amountsOf_40 rfl rfl ?_
    exact hK
  · intro i hi_4 nx_4
    try dsimp only at nx_4 ⊢
    have hci : (nI i).toNatClampNeg = i := nI_clamp (by omega)
    refine aw_iload_n dX4_amountsOf_4 rfl rfl ?_
    refine aw_aload_n dX4_amountsOf_5 rfl rfl ?_
    refine aw_getI dX4_amountsOf_6 rfl rfl rfl flX4_92 ?_
    refine aw_icmp_ge (tgt := 39) dX4_amountsOf_9 rfl rfl (fun z => absurd z (by rw [h9]; exact nI_ge hi_4 (by omega))) (fun _ => ?_)
    refine aw_iload_n dX4_amountsOf_12 rfl rfl ?_
    refine aw_iload_n dX4_amountsOf_13 rfl rfl ?_
    refine aw_iload_n dX4_amountsOf_14 rfl rfl ?_
    refine aw_S2 (M' := mX4_has) dX4_amountsOf_15 rfl lkX4_86 gX4_has (Nat.le_of_ble_eq_true rfl) (sX4_has ?_)
    show AW _ mX4_amountsOf 18 _ (_ :: _) _ _
    refine aw_if_eqB (tgt := 30) dX4_amountsOf_18 rfl rfl (fun c18 => ?_) (fun c18 => ?_)
    · skip
      refine aw_iconst 0 dX4_amountsOf_30 rfl (by decide) ?_
      refine aw_iadd dX4_amountsOf_31 rfl ?_
      refine aw_istore_n dX4_amountsOf_32 rfl (by decide) ?_
      show AW _ mX4_amountsOf 33 [_, _, _, _] _ _ _
      refine aw_iinc dX4_amountsOf_33 rfl rfl (ii_1 _) (by decide) ?_
      show AW _ mX4_amountsOf 36 [_, _, _, _] _ _ _
      refine aw_goto (q := 4) dX4_amountsOf_36 rfl ?_
      refine AW.conv nx_4 ?_ rfl rfl
      simp only [nI_succ, amS_s]
      simp [hs, c18]
    · skip
      refine aw_aload_n dX4_amountsOf_21 rfl rfl ?_
      refine aw_getR dX4_amountsOf_22 rfl rfl rfl (by decide) flX4_37 ?_
      refine aw_iload_n dX4_amountsOf_25 rfl rfl ?_
      refine aw_iald dX4_amountsOf_26 rfl rfl (by first | exact vp_in_nI (by omega) (by omega) | decide) ?_
      try simp only [hci]
      refine aw_goto (q := 31) dX4_amountsOf_27 rfl ?_
      refine aw_iadd dX4_amountsOf_31 rfl ?_
      refine aw_istore_n dX4_amountsOf_32 rfl (by decide) ?_
      show AW _ mX4_amountsOf 33 [_, _, _, _] _ _ _
      refine aw_iinc dX4_amountsOf_33 rfl rfl (ii_1 _) (by decide) ?_
      show AW _ mX4_amountsOf 36 [_, _, _, _] _ _ _
      refine aw_goto (q := 4) dX4_amountsOf_36 rfl ?_
      refine AW.conv nx_4 ?_ rfl rfl
      simp only [nI_succ, amS_s]
      simp [hs, c18]
end
section
set_option maxRecDepth 4000 in
theorem sX4_fills {d : Nat} {σ : SS} {K : ax_K} {n cn : Nat} (hn : n ≤ 6) (h0 : σ 28 0 0 = nI n) (hc : cn ≤ 4) (h9 : σ 28 0 9 = nI cn) (hK : K none (rp σ 45 0 (fun t => if t < n then fl (σ 29 0) (σ 38 0) (σ 44 0) cn t else σ 45 0 t))) : AW d mX4_fills 0 (ax_en mX4_fills [.inr (28, 0)]) [] σ K := by
  show AW _ mX4_fills 0 [_, _, _, _] _ _ _
  refine aw_iconst 0 dX4_fills_0 rfl (by decide) ?_
  refine aw_istore_n dX4_fills_1 rfl (by decide) ?_
  show AW _ mX4_fills 2 [_, _, _, _] _ _ _
  refine AW.conv (ax_loop (P := fun i => AW d mX4_fills 2 [some (.inr (28, 0)), some (.inl (nI i)), none, none] [] (rp σ 45 0 (fun t => if t < i then 0 else σ 45 0 t)) K) n ?_ ?_ 0 (Nat.zero_le _)) (by first | (simp only [nI_0]; done) | (simp only [nI_0]; rfl)) rfl (by rw [up_0 (fun _ => 0), rp_self])
  · try dsimp only
    refine aw_iload_n dX4_fills_2 rfl rfl ?_
    refine aw_aload_n dX4_fills_3 rfl rfl ?_
    refine aw_getI dX4_fills_4 rfl rfl rfl flX4_75 ?_
    refine aw_icmp_ge (tgt := 23) dX4_fills_7 rfl rfl (fun _ => ?_) (fun z => absurd (by rw [rp_nk (by decide), h0]; exact Int32.le_refl _) z)
    refine aw_iconst 0 dX4_fills_23 rfl (by decide) ?_
    refine aw_istore_n dX4_fills_24 rfl (by decide) ?_
    show AW _ mX4_fills 25 [_, _, _, _] _ _ _
    refine AW.conv (ax_loop (P := fun i => AW d mX4_fills 25 [some (.inr (28, 0)), some (.inl (nI i)), none, none] [] (rp σ 45 0 (fun t => if t < n then fl (σ 29 0) (σ 38 0) (σ 44 0) i t else σ 45 0 t)) K) cn ?_ ?_ 0 (Nat.zero_le _)) (by rw [nI_0]) rfl (by simp only [fl_0])
    · try dsimp only
      refine aw_iload_n dX4_fills_25 rfl rfl ?_
      refine aw_aload_n dX4_fills_26 rfl rfl ?_
      refine aw_getI dX4_fills_27 rfl rfl rfl flX4_92 ?_
      refine aw_icmp_ge (tgt := 107) dX4_fills_30 rfl rfl (fun _ => ?_) (fun z => absurd (by rw [rp_nk (by decide), h9]; exact Int32.le_refl _) z)
      refine aw_vret dX4_fills_107 rfl ?_
      exact hK
    · intro i hi_25 nx_25
      try dsimp only at nx_25 ⊢
      have hci : (nI i).toNatClampNeg = i := nI_clamp (by omega)
      refine aw_iload_n dX4_fills_25 rfl rfl ?_
      refine aw_aload_n dX4_fills_26 rfl rfl ?_
      refine aw_getI dX4_fills_27 rfl rfl rfl flX4_92 ?_
      refine aw_icmp_ge (tgt := 107) dX4_fills_30 rfl rfl (fun z => absurd z (by rw [rp_nk (by decide), h9]; exact nI_ge hi_25 (by omega))) (fun _ => ?_)
      refine aw_aload_n dX4_fills_33 rfl rfl ?_
      refine aw_getR dX4_fills_34 rfl rfl rfl (by decide) flX4_37 ?_
      refine aw_iload_n dX4_fills_37 rfl rfl ?_
      refine aw_iald dX4_fills_38 rfl rfl (by first | exact vp_in_nI (by omega) (by omega) | decide) ?_
      try simp only [hci]
      try simp only [hcj]
      try simp only [rp_nk (show ¬ 44 = 45 by decide)]
      try simp only [rp_nk (show ¬ 29 = 45 by decide)]
      try simp only [rp_nk (show ¬ 38 = 45 by decide)]
      refine aw_istore_n dX4_fills_39 rfl (by decide) ?_
      show AW _ mX4_fills 40 [_, _, _, _] _ _ _
      refine aw_iconst 0 dX4_fills_40 rfl (by decide) ?_
      refine aw_istore_n dX4_fills_41 rfl (by decide) ?_
      show AW _ mX4_fills 42 [_, _, _, _] _ _ _
      refine AW.conv (ax_loop (P := fun j => AW d mX4_fills 42 [some (.inr (28, 0)), some (.inl (nI i)), some (.inl (lfI (σ 29 0) (σ 44 0) (σ 38 0 i) (nI i) j)), some (.inl (nI j))] [] (rp σ 45 0 (frow (σ 29 0) (σ 38 0) (σ 44 0) (σ 45 0) n i j)) K) n ?_ ?_ 0 (Nat.zero_le _)) (by simp only [nI_0, lfI, lp_0]) rfl (by rw [frow_0])
      · try dsimp only
        refine aw_iload_n dX4_fills_42 rfl rfl ?_
        refine aw_aload_n dX4_fills_43 rfl rfl ?_
        refine aw_getI dX4_fills_44 rfl rfl rfl flX4_75 ?_
        refine aw_icmp_ge (tgt := 101) dX4_fills_47 rfl rfl (fun _ => ?_) (fun z => absurd (by rw [rp_nk (by decide), h0]; exact Int32.le_refl _) z)
        refine aw_iinc dX4_fills_101 rfl rfl (ii_1 _) (by decide) ?_
        show AW _ mX4_fills 104 [_, _, _, _] _ _ _
        refine aw_goto (q := 25) dX4_fills_104 rfl ?_
        refine AW.conv (AW.forget nx_25 (ls := [some (.inr (28, 0)), some (.inl (nI (i + 1))), some (.inl (lfI (σ 29 0) (σ 44 0) (σ 38 0 i) (nI i) n)), some (.inl (nI n))]) (fun n v h => by
          match n, h with
          | 0, h => exact h
          | 1, h => exact h
          | 2, h => cases h
          | 3, h => cases h
          | n + 4, h => simp at h)) (by first | (simp only [nI_succ]; done) | (simp only [nI_succ]; rfl)) rfl ?_
        rw [frow_n]
      · intro j hi_42 nx_42
        try dsimp only at nx_42 ⊢
        have hcj : (nI j).toNatClampNeg = j := nI_clamp (by omega)
        refine aw_iload_n dX4_fills_42 rfl rfl ?_
        refine aw_aload_n dX4_fills_43 rfl rfl ?_
        refine aw_getI dX4_fills_44 rfl rfl rfl flX4_75 ?_
        refine aw_icmp_ge (tgt := 101) dX4_fills_47 rfl rfl (fun z => absurd z (by rw [rp_nk (by decide), h0]; exact nI_ge hi_42 (by omega))) (fun _ => ?_)
        refine aw_aload_n dX4_fills_50 rfl rfl ?_
        refine aw_getR dX4_fills_51 rfl rfl rfl (by decide) flX4_59 ?_
        refine aw_iload_n dX4_fills_54 rfl rfl ?_
        refine aw_iald dX4_fills_55 rfl rfl (by first | exact vp_in_nI (by omega) (by omega) | decide) ?_
        try simp only [hci]
        try simp only [hcj]
        try simp only [rp_nk (show ¬ 44 = 45 by decide)]
        try simp only [rp_nk (show ¬ 29 = 45 by decide)]
        try simp only [rp_nk (show ¬ 38 = 45 by decide)]
        refine aw_iload_n dX4_fills_56 rfl rfl ?_
        refine aw_icmp_ne (tgt := 95) dX4_fills_57 rfl rfl (fun c57 => ?_) (fun c57 => ?_)
        · skip
          refine aw_iinc dX4_fills_95 rfl rfl (ii_1 _) (by decide) ?_
          show AW _ mX4_fills 98 [_, _, _, _] _ _ _
          refine aw_goto (q := 42) dX4_fills_98 rfl ?_
          refine AW.conv nx_42 ?_ rfl ?_
          · simp only [nI_succ, lfI_s, rp_nk, rp_at, rp_rp, pk_us, ne_eq, Nat.reduceEqDiff, not_false_eq_true]
            simp [c57]
          · rw [frow_ne c57 (by omega)]
        · skip
          refine aw_aload_n dX4_fills_60 rfl rfl ?_
          refine aw_getR dX4_fills_61 rfl rfl rfl (by decide) flX4_62 ?_
          refine aw_iload_n dX4_fills_64 rfl rfl ?_
          refine aw_iload_n dX4_fills_65 rfl rfl ?_
          refine aw_aload_n dX4_fills_66 rfl rfl ?_
          refine aw_getR dX4_fills_67 rfl rfl rfl (by decide) flX4_7 ?_
          refine aw_iload_n dX4_fills_70 rfl rfl ?_
          refine aw_iald dX4_fills_71 rfl rfl (by first | exact vp_in_nI (by omega) (by omega) | decide) ?_
          try simp only [hci]
          try simp only [hcj]
          try simp only [rp_nk (show ¬ 44 = 45 by decide)]
          try simp only [rp_nk (show ¬ 29 = 45 by decide)]
          try simp only [rp_nk (show ¬ 38 = 45 by decide)]
          refine aw_icmp_ge (tgt := 79) dX4_fills_72 rfl rfl (fun c72 => ?_) (fun c72 => ?_)
          · skip
            replace c72 := Int32.not_lt.mpr c72
            refine aw_aload_n dX4_fills_79 rfl rfl ?_
            refine aw_getR dX4_fills_80 rfl rfl rfl (by decide) flX4_7 ?_
            refine aw_iload_n dX4_fills_83 rfl rfl ?_
            refine aw_iald dX4_fills_84 rfl rfl (by first | exact vp_in_nI (by omega) (by omega) | decide) ?_
            try simp only [hci]
            try simp only [hcj]
            try simp only [rp_nk (show ¬ 44 = 45 by decide)]
            try simp only [rp_nk (show ¬ 29 = 45 by decide)]
            try simp only [rp_nk (show ¬ 38 = 45 by decide)]
            refine aw_iast dX4_fills_85 rfl rfl (by first | exact vp_in_nI (by omega) (by omega) | decide) ?_
            try simp only [hci]
            try simp only [hcj]
            try simp only [rp_nk (show ¬ 44 = 45 by decide)]
            try simp only [rp_nk (show ¬ 29 = 45 by decide)]
            try simp only [rp_nk (show ¬ 38 = 45 by decide)]
            refine aw_iload_n dX4_fills_86 rfl rfl ?_
            refine aw_aload_n dX4_fills_87 rfl rfl ?_
            refine aw_getR dX4_fills_88 rfl rfl rfl (by decide) flX4_62 ?_
            refine aw_iload_n dX4_fills_91 rfl rfl ?_
            refine aw_iald dX4_fills_92 rfl rfl (by first | exact vp_in_nI (by omega) (by omega) | decide) ?_
            try simp only [hci]
            try simp only [hcj]
            try simp only [rp_nk (show ¬ 44 = 45 by decide)]
            try simp only [rp_nk (show ¬ 29 = 45 by decide)]
            try simp only [rp_nk (show ¬ 38 = 45 by decide)]
            refine aw_isub dX4_fills_93 rfl ?_
            refine aw_istore_n dX4_fills_94 rfl (by decide) ?_
            show AW _ mX4_fills 95 [_, _, _, _] _ _ _
            refine aw_iinc dX4_fills_95 rfl rfl (ii_1 _) (by decide) ?_
            show AW _ mX4_fills 98 [_, _, _, _] _ _ _
            refine aw_goto (q := 42) dX4_fills_98 rfl ?_
            refine AW.conv nx_42 ?_ rfl ?_
            · simp only [nI_succ, lfI_s, rp_nk, rp_at, rp_rp, pk_us, ne_eq, Nat.reduceEqDiff, not_false_eq_true]
              simp [c57, mn, c72]
            · simp only [rp_nk, rp_at, rp_rp, pk_us, ne_eq, Nat.reduceEqDiff, not_false_eq_true]
              rw [← frow_up c57 hi_42 (by omega)]
              simp [mn, c72]
          · skip
            replace c72 := Int32.not_le.mp c72
            refine aw_iload_n dX4_fills_75 rfl rfl ?_
            refine aw_goto (q := 85) dX4_fills_76 rfl ?_
            refine aw_iast dX4_fills_85 rfl rfl (by first | exact vp_in_nI (by omega) (by omega) | decide) ?_
            try simp only [hci]
            try simp only [hcj]
            try simp only [rp_nk (show ¬ 44 = 45 by decide)]
            try simp only [rp_nk (show ¬ 29 = 45 by decide)]
            try simp only [rp_nk (show ¬ 38 = 45 by decide)]
            refine aw_iload_n dX4_fills_86 rfl rfl ?_
            refine aw_aload_n dX4_fills_87 rfl rfl ?_
            refine aw_getR dX4_fills_88 rfl rfl rfl (by decide) flX4_62 ?_
            refine aw_iload_n dX4_fills_91 rfl rfl ?_
            refine aw_iald dX4_fills_92 rfl rfl (by first | exact vp_in_nI (by omega) (by omega) | decide) ?_
            try simp only [hci]
            try simp only [hcj]
            try simp only [rp_nk (show ¬ 44 = 45 by decide)]
            try simp only [rp_nk (show ¬ 29 = 45 by decide)]
            try simp only [rp_nk (show ¬ 38 = 45 by decide)]
            refine aw_isub dX4_fills_93 rfl ?_
            refine aw_istore_n dX4_fills_94 rfl (by decide) ?_
            show AW _ mX4_fills 95 [_, _, _, _] _ _ _
            refine aw_iinc dX4_fills_95 rfl rfl (ii_1 _) (by decide) ?_
            show AW _ mX4_fills 98 [_, _, _, _] _ _ _
            refine aw_goto (q := 42) dX4_fills_98 rfl ?_
            refine AW.conv nx_42 ?_ rfl ?_
            · simp only [nI_succ, lfI_s, rp_nk, rp_at, rp_rp, pk_us, ne_eq, Nat.reduceEqDiff, not_false_eq_true]
              simp [c57, mn, c72]
            · simp only [rp_nk, rp_at, rp_rp, pk_us, ne_eq, Nat.reduceEqDiff, not_false_eq_true]
              rw [← frow_up c57 hi_42 (by omega)]
              simp [mn, c72]
  · intro i hi_2 nx_2
    try dsimp only at nx_2 ⊢
    have hci : (nI i).toNatClampNeg = i := nI_clamp (by omega)
    refine aw_iload_n dX4_fills_2 rfl rfl ?_
    refine aw_aload_n dX4_fills_3 rfl rfl ?_
    refine aw_getI dX4_fills_4 rfl rfl rfl flX4_75 ?_
    refine aw_icmp_ge (tgt := 23) dX4_fills_7 rfl rfl (fun z => absurd z (by rw [rp_nk (by decide), h0]; exact nI_ge hi_2 (by omega))) (fun _ => ?_)
    refine aw_aload_n dX4_fills_10 rfl rfl ?_
    refine aw_getR dX4_fills_11 rfl rfl rfl (by decide) flX4_62 ?_
    refine aw_iload_n dX4_fills_14 rfl rfl ?_
    refine aw_iconst 0 dX4_fills_15 rfl (by decide) ?_
    refine aw_iast dX4_fills_16 rfl rfl (by first | exact vp_in_nI (by omega) (by omega) | decide) ?_
    try simp only [hci]
    try simp only [hcj]
    try simp only [rp_nk (show ¬ 44 = 45 by decide)]
    try simp only [rp_nk (show ¬ 29 = 45 by decide)]
    try simp only [rp_nk (show ¬ 38 = 45 by decide)]
    refine aw_iinc dX4_fills_17 rfl rfl (ii_1 _) (by decide) ?_
    show AW _ mX4_fills 20 [_, _, _, _] _ _ _
    refine aw_goto (q := 2) dX4_fills_20 rfl ?_
    refine AW.conv nx_2 (by first | (simp only [nI_succ]; done) | (simp only [nI_succ]; rfl)) rfl ?_
    simp only [rp_nk, rp_at, rp_rp, pk_us, ne_eq, Nat.reduceEqDiff, not_false_eq_true, hci]
    exact congrArg (rp σ 45 0) (up_lt (fun _ => 0) (σ 45 0) i)
set_option maxRecDepth 4000 in
theorem sX4_sizeOf_l {d : Nat} {σ : SS} {K : ax_K} {v : Int32} : ∀ (m : Nat), m < 16 → ∀ (a : Nat), K (some (nI (a + pc4 m))) σ → AW d mX4_sizeOf 4 [some (.inl v), some (.inl (nI a)), some (.inl (nI m))] [] σ K := by
  intro m
  induction m using Nat.strongRecOn with
  | _ m ih =>
  intro hm a hK
  show AW _ mX4_sizeOf 4 [_, _, _] _ _ _
  refine aw_iload_n dX4_sizeOf_4 rfl rfl ?_
  refine aw_if_le (tgt := 21) dX4_sizeOf_5 rfl rfl (fun c5 => ?_) (fun c5 => ?_)
  · skip
    refine aw_iload_n dX4_sizeOf_21 rfl rfl ?_
    refine aw_ret dX4_sizeOf_22 rfl rfl ?_
    have h0 : m = 0 := by
      rcases Nat.eq_zero_or_pos m with h | h
      · exact h
      · exact absurd c5 (nI_nle h (by omega))
    subst h0
    exact hK
  · skip
    refine aw_iload_n dX4_sizeOf_8 rfl rfl ?_
    refine aw_iload_n dX4_sizeOf_9 rfl rfl ?_
    refine aw_iconst 1 dX4_sizeOf_10 rfl (by decide) ?_
    refine aw_iand dX4_sizeOf_11 rfl ?_
    refine aw_iadd dX4_sizeOf_12 rfl ?_
    refine aw_istore_n dX4_sizeOf_13 rfl (by decide) ?_
    show AW _ mX4_sizeOf 14 [_, _, _] _ _ _
    refine aw_iload_n dX4_sizeOf_14 rfl rfl ?_
    refine aw_iconst 1 dX4_sizeOf_15 rfl (by decide) ?_
    refine aw_ishr dX4_sizeOf_16 rfl ?_
    refine aw_istore_n dX4_sizeOf_17 rfl (by decide) ?_
    show AW _ mX4_sizeOf 18 [_, _, _] _ _ _
    refine aw_goto (q := 4) dX4_sizeOf_18 rfl ?_
    rw [an1 m hm, sr1 m hm, nI_add]
    have h0 : m ≠ 0 := fun z => c5 (by rw [z]; decide)
    exact ih (m / 2) (by omega) (by omega) (a + m % 2) (by rw [Nat.add_assoc, ← pc4_s m hm]; exact hK)
set_option maxRecDepth 4000 in
theorem sX4_sizeOf {d : Nat} {σ : SS} {K : ax_K} {m : Nat} (hm : m < 16) (hK : K (some (nI (pc4 m))) σ) : AW d mX4_sizeOf 0 (ax_en mX4_sizeOf [.inl (nI m)]) [] σ K := by
  show AW _ mX4_sizeOf 0 [_, _, _] _ _ _
  refine aw_iconst 0 dX4_sizeOf_0 rfl (by decide) ?_
  refine aw_istore_n dX4_sizeOf_1 rfl (by decide) ?_
  show AW _ mX4_sizeOf 2 [_, _, _] _ _ _
  refine aw_iload_n dX4_sizeOf_2 rfl rfl ?_
  refine aw_istore_n dX4_sizeOf_3 rfl (by decide) ?_
  show AW _ mX4_sizeOf 4 [_, _, _] _ _ _
  exact AW.conv (sX4_sizeOf_l m hm 0 (by rw [Nat.zero_add]; exact hK)) (by rw [nI_0]) rfl rfl
set_option maxRecDepth 4000 in
theorem sX4_isBetter {d : Nat} {σ : SS} {K : ax_K} {s t cn : Nat} (hc : cn ≤ 4) (h9 : σ 28 0 9 = nI cn) (hs16 : s < 16) (ht16 : t < 16) (hK : K (some (bB (btB σ cn s t))) σ) : AW (d + 2) mX4_isBetter 0 (ax_en mX4_isBetter [.inr (28, 0), .inl (nI s), .inl (nI t)]) [] σ K := by
  show AW _ mX4_isBetter 0 [_, _, _, _] _ _ _
  refine aw_aload_n dX4_isBetter_0 rfl rfl ?_
  refine aw_iload_n dX4_isBetter_1 rfl rfl ?_
  refine aw_V1 (M' := mX4_amountsOf) dX4_isBetter_2 rfl lkX4_183 gX4_amountsOf rfl rfl (Nat.le_of_ble_eq_true rfl) (sX4_amountsOf hc h9 ?_)
  show AW _ mX4_isBetter 5 _ (_ :: _) _ _
  refine aw_aload_n dX4_isBetter_5 rfl rfl ?_
  refine aw_iload_n dX4_isBetter_6 rfl rfl ?_
  refine aw_V1 (M' := mX4_amountsOf) dX4_isBetter_7 rfl lkX4_183 gX4_amountsOf rfl rfl (Nat.le_of_ble_eq_true rfl) (sX4_amountsOf hc h9 ?_)
  show AW _ mX4_isBetter 10 _ (_ :: _) _ _
  refine aw_isub dX4_isBetter_10 rfl ?_
  refine aw_istore_n dX4_isBetter_11 rfl (by decide) ?_
  show AW _ mX4_isBetter 12 [_, _, _, _] _ _ _
  refine aw_iload_n dX4_isBetter_12 rfl rfl ?_
  refine aw_if_gt (tgt := 31) dX4_isBetter_13 rfl rfl (fun c13 => ?_) (fun c13 => ?_)
  · skip
    try replace c28 := Int32.not_le.mp c28
    refine aw_iconst 1 dX4_isBetter_31 rfl (by decide) ?_
    refine aw_goto (q := 36) dX4_isBetter_32 rfl ?_
    refine aw_ret dX4_isBetter_36 rfl (by decide) ?_
    exact kk_c hK (by simp [btB, bB, c13]) rfl
  · skip
    refine aw_iload_n dX4_isBetter_16 rfl rfl ?_
    refine aw_if_ne (tgt := 35) dX4_isBetter_17 rfl rfl (fun c17 => ?_) (fun c17 => ?_)
    · skip
      try replace c28 := Int32.not_lt.mpr c28
      refine aw_iconst 0 dX4_isBetter_35 rfl (by decide) ?_
      refine aw_ret dX4_isBetter_36 rfl (by decide) ?_
      exact kk_c hK (by simp [btB, bB, c13, c17]) rfl
    · skip
      refine aw_iload_n dX4_isBetter_20 rfl rfl ?_
      refine aw_S1 (M' := mX4_sizeOf) dX4_isBetter_21 rfl lkX4_186 gX4_sizeOf (Nat.le_of_ble_eq_true rfl) (sX4_sizeOf (by omega) ?_)
      show AW _ mX4_isBetter 24 _ (_ :: _) _ _
      refine aw_iload_n dX4_isBetter_24 rfl rfl ?_
      refine aw_S1 (M' := mX4_sizeOf) dX4_isBetter_25 rfl lkX4_186 gX4_sizeOf (Nat.le_of_ble_eq_true rfl) (sX4_sizeOf (by omega) ?_)
      show AW _ mX4_isBetter 28 _ (_ :: _) _ _
      refine aw_icmp_ge (tgt := 35) dX4_isBetter_28 rfl rfl (fun c28 => ?_) (fun c28 => ?_)
      · skip
        try replace c28 := Int32.not_lt.mpr c28
        refine aw_iconst 0 dX4_isBetter_35 rfl (by decide) ?_
        refine aw_ret dX4_isBetter_36 rfl (by decide) ?_
        exact kk_c hK (by simp [btB, bB, c13, c17, c28]) rfl
      · skip
        try replace c28 := Int32.not_le.mp c28
        refine aw_iconst 1 dX4_isBetter_31 rfl (by decide) ?_
        refine aw_goto (q := 36) dX4_isBetter_32 rfl ?_
        refine aw_ret dX4_isBetter_36 rfl (by decide) ?_
        exact kk_c hK (by simp [btB, bB, c13, c17, c28]) rfl
set_option maxRecDepth 4000 in
theorem sX4_empties {d : Nat} {σ : SS} {K : ax_K} {a : Nat} (ha : a < 6) (hh : vp_in (σ 35 0 a) 4) (hK : K none (rp (rp (rp σ 33 0 (latUp (σ 33 0) a (σ 37 0 (ci (σ 35 0 a))))) 35 0 (upd (σ 35 0) a (-9))) 36 0 (upd (σ 36 0) a 0))) : AW d mX4_empties 0 (ax_en mX4_empties [.inr (28, 0), .inl (nI a)]) [] σ K := by
  have hca : (nI a).toNatClampNeg = a := nI_clamp (by omega)
  have hc0 : (nI (3 * a)).toNatClampNeg = 3 * a := nI_clamp (by omega)
  have hc1 : (nI (3 * a + 1)).toNatClampNeg = 3 * a + 1 := nI_clamp (by omega)
  have hc2 : (nI (3 * a + 2)).toNatClampNeg = 3 * a + 2 := nI_clamp (by omega)
  have e1 : 3 * nI a + 1 = nI (3 * a + 1) := by rw [ix30, nI_succ]
  have e2 : 3 * nI a + 2 = nI (3 * a + 2) := by rw [ix30, show (2 : Int32) = nI 2 by decide, nI_add]
  show AW _ mX4_empties 0 [_, _] _ _ _
  refine aw_aload_n dX4_empties_0 rfl rfl ?_
  refine aw_getR dX4_empties_1 rfl rfl rfl (by decide) flX4_22 ?_
  refine aw_iconst 3 dX4_empties_4 rfl (by decide) ?_
  refine aw_iload_n dX4_empties_5 rfl rfl ?_
  refine aw_imul dX4_empties_6 rfl ?_
  refine aw_iconst 2 dX4_empties_7 rfl (by decide) ?_
  refine aw_iadd dX4_empties_8 rfl ?_
  rw [e2]
  refine aw_aload_n dX4_empties_9 rfl rfl ?_
  refine aw_getR dX4_empties_10 rfl rfl rfl (by decide) flX4_22 ?_
  refine aw_iconst 3 dX4_empties_13 rfl (by decide) ?_
  refine aw_iload_n dX4_empties_14 rfl rfl ?_
  refine aw_imul dX4_empties_15 rfl ?_
  refine aw_iconst 1 dX4_empties_16 rfl (by decide) ?_
  refine aw_iadd dX4_empties_17 rfl ?_
  rw [e1]
  refine aw_iald dX4_empties_18 rfl rfl (by first | exact vp_in_nI (by omega) (by omega) | decide) ?_
  refine aw_iast dX4_empties_19 rfl rfl (by first | exact vp_in_nI (by omega) (by omega) | decide) ?_
  refine aw_aload_n dX4_empties_20 rfl rfl ?_
  refine aw_getR dX4_empties_21 rfl rfl rfl (by decide) flX4_22 ?_
  refine aw_iconst 3 dX4_empties_24 rfl (by decide) ?_
  refine aw_iload_n dX4_empties_25 rfl rfl ?_
  refine aw_imul dX4_empties_26 rfl ?_
  refine aw_iconst 1 dX4_empties_27 rfl (by decide) ?_
  refine aw_iadd dX4_empties_28 rfl ?_
  rw [e1]
  refine aw_aload_n dX4_empties_29 rfl rfl ?_
  refine aw_getR dX4_empties_30 rfl rfl rfl (by decide) flX4_22 ?_
  refine aw_iconst 3 dX4_empties_33 rfl (by decide) ?_
  refine aw_iload_n dX4_empties_34 rfl rfl ?_
  refine aw_imul dX4_empties_35 rfl ?_
  rw [ix30]
  refine aw_iald dX4_empties_36 rfl rfl (by first | exact vp_in_nI (by omega) (by omega) | decide) ?_
  refine aw_iast dX4_empties_37 rfl rfl (by first | exact vp_in_nI (by omega) (by omega) | decide) ?_
  refine aw_aload_n dX4_empties_38 rfl rfl ?_
  refine aw_getR dX4_empties_39 rfl rfl rfl (by decide) flX4_22 ?_
  refine aw_iconst 3 dX4_empties_42 rfl (by decide) ?_
  refine aw_iload_n dX4_empties_43 rfl rfl ?_
  refine aw_imul dX4_empties_44 rfl ?_
  rw [ix30]
  refine aw_aload_n dX4_empties_45 rfl rfl ?_
  refine aw_getR dX4_empties_46 rfl rfl rfl (by decide) flX4_34 ?_
  refine aw_aload_n dX4_empties_49 rfl rfl ?_
  refine aw_getR dX4_empties_50 rfl rfl rfl (by decide) flX4_28 ?_
  refine aw_iload_n dX4_empties_53 rfl rfl ?_
  refine aw_iald dX4_empties_54 rfl rfl (by first | exact vp_in_nI (by omega) (by omega) | decide) ?_
  refine aw_iald dX4_empties_55 rfl rfl (by simpa only [rp_nk, ne_eq, Nat.reduceEqDiff, not_false_eq_true, hca] using hh) ?_
  refine aw_iast dX4_empties_56 rfl rfl (by first | exact vp_in_nI (by omega) (by omega) | decide) ?_
  refine aw_aload_n dX4_empties_57 rfl rfl ?_
  refine aw_getR dX4_empties_58 rfl rfl rfl (by decide) flX4_28 ?_
  refine aw_iload_n dX4_empties_61 rfl rfl ?_
  refine aw_bipush (-9) dX4_empties_62 rfl (by decide) ?_
  refine aw_iast dX4_empties_64 rfl rfl (by first | exact vp_in_nI (by omega) (by omega) | decide) ?_
  refine aw_aload_n dX4_empties_65 rfl rfl ?_
  refine aw_getR dX4_empties_66 rfl rfl rfl (by decide) flX4_31 ?_
  refine aw_iload_n dX4_empties_69 rfl rfl ?_
  refine aw_iconst 0 dX4_empties_70 rfl (by decide) ?_
  refine aw_iast dX4_empties_71 rfl rfl (by first | exact vp_in_nI (by omega) (by omega) | decide) ?_
  refine aw_vret dX4_empties_72 rfl ?_
  refine kk_c hK rfl ?_
  simp only [rp_nk, rp_at, rp_rp, pk_us, ne_eq, Nat.reduceEqDiff, not_false_eq_true, hca, hc0, hc1, hc2, latUp, ci]
  rw [pk_un (show 3 * a ≠ 3 * a + 2 by omega)]
set_option maxRecDepth 4000 in
theorem sX4_mayTake {d : Nat} {σ : SS} {K : ax_K} {a n cn : Nat} {c : Int32} (hn : n ≤ 6) (h0 : σ 28 0 0 = nI n) (hc : cn ≤ 4) (ha : a < n) (hcv : vp_in c 4) (hH : okT n cn (σ 35 0)) (hK : K (some (bB (decide (whyS σ a (ci c) = 0) && !anyB n (tB σ a c)))) σ) : AW (d + 2) mX4_mayTake 0 (ax_en mX4_mayTake [.inr (28, 0), .inl (nI a), .inl c]) [] σ K := by
  have hca : (nI a).toNatClampNeg = a := nI_clamp (by omega)
  show AW _ mX4_mayTake 0 [_, _, _, _, _] _ _ _
  refine aw_aload_n dX4_mayTake_0 rfl rfl ?_
  refine aw_iload_n dX4_mayTake_1 rfl rfl ?_
  refine aw_iload_n dX4_mayTake_2 rfl rfl ?_
  refine aw_V2 (M' := mX4_whyNot) dX4_mayTake_3 rfl lkX4_108 gX4_whyNot rfl rfl (Nat.le_of_ble_eq_true rfl) (sX4_whyNotI (vp_in_nI (by omega) (by omega)) hcv ?_)
  rw [ci, hca]
  show AW _ mX4_mayTake 6 _ (_ :: _) _ _
  refine aw_if_ne (tgt := 13) dX4_mayTake_6 rfl rfl (fun c6 => ?_) (fun c6 => ?_)
  · skip
    refine aw_iconst 0 dX4_mayTake_13 rfl (by decide) ?_
    refine aw_istore_n dX4_mayTake_14 rfl (by decide) ?_
    show AW _ mX4_mayTake 15 [_, _, _, _, _] _ _ _
    refine aw_iconst 0 dX4_mayTake_15 rfl (by decide) ?_
    refine aw_istore dX4_mayTake_16 rfl (by decide) ?_
    show AW _ mX4_mayTake 18 [_, _, _, _, _] _ _ _
    refine AW.conv (ax_loop (P := fun i => AW (d + 2) mX4_mayTake 18 [some (.inr (28, 0)), some (.inl (nI a)), some (.inl c), some (.inl (bB (decide (whyS σ a (ci c) = 0) && !anyB i (tB σ a c)))), some (.inl (nI i))] [] σ K) n ?_ ?_ 0 (Nat.zero_le _)) (by rw [nI_0, anyB_0]; simp [bB, c6]) rfl rfl
    · try dsimp only
      refine aw_iload dX4_mayTake_18 rfl rfl ?_
      refine aw_aload_n dX4_mayTake_20 rfl rfl ?_
      refine aw_getI dX4_mayTake_21 rfl rfl rfl flX4_75 ?_
      refine aw_icmp_ge (tgt := 84) dX4_mayTake_24 rfl rfl (fun _ => ?_) (fun z => absurd (by rw [h0]; exact Int32.le_refl _) z)
      refine aw_iload_n dX4_mayTake_84 rfl rfl ?_
      refine aw_ret dX4_mayTake_85 rfl (bB_nar _) ?_
      exact hK
    · intro i hi_18 nx_18
      try dsimp only at nx_18 ⊢
      have hci : (nI i).toNatClampNeg = i := nI_clamp (by omega)
      refine aw_iload dX4_mayTake_18 rfl rfl ?_
      refine aw_aload_n dX4_mayTake_20 rfl rfl ?_
      refine aw_getI dX4_mayTake_21 rfl rfl rfl flX4_75 ?_
      refine aw_icmp_ge (tgt := 84) dX4_mayTake_24 rfl rfl (fun z => absurd z (by rw [h0]; exact nI_ge hi_18 (by omega))) (fun _ => ?_)
      refine aw_iload_n dX4_mayTake_27 rfl rfl ?_
      refine aw_if_eqB (tgt := 76) dX4_mayTake_28 rfl rfl (fun c28 => ?_) (fun c28 => ?_)
      · skip
        refine aw_iconst 0 dX4_mayTake_76 rfl (by decide) ?_
        refine aw_istore_n dX4_mayTake_77 rfl (by decide) ?_
        show AW _ mX4_mayTake 78 [_, _, _, _, _] _ _ _
        refine aw_iinc dX4_mayTake_78 rfl rfl (ii_1 _) (by decide) ?_
        show AW _ mX4_mayTake 81 [_, _, _, _, _] _ _ _
        refine aw_goto (q := 18) dX4_mayTake_81 rfl ?_
        refine AW.conv nx_18 ?_ rfl rfl
        simp only [nI_succ, anyB_s, Bool.not_or]
        rw [← Bool.and_assoc]
        simp [bB, tB, c28]
      · skip
        refine aw_aload_n dX4_mayTake_31 rfl rfl ?_
        refine aw_getR dX4_mayTake_32 rfl rfl rfl (by decide) flX4_19 ?_
        refine aw_iload_n dX4_mayTake_35 rfl rfl ?_
        refine aw_iald dX4_mayTake_36 rfl rfl (by first | exact vp_in_nI (by omega) (by omega) | decide) ?_
        try simp only [hci]
        try simp only [hca]
        refine aw_iload dX4_mayTake_37 rfl rfl ?_
        refine aw_S2 (M' := mX4_has) dX4_mayTake_39 rfl lkX4_86 gX4_has (Nat.le_of_ble_eq_true rfl) (sX4_has ?_)
        show AW _ mX4_mayTake 42 _ (_ :: _) _ _
        refine aw_if_eqB (tgt := 72) dX4_mayTake_42 rfl rfl (fun c42 => ?_) (fun c42 => ?_)
        · skip
          refine aw_iconst 1 dX4_mayTake_72 rfl (by decide) ?_
          refine aw_goto (q := 77) dX4_mayTake_73 rfl ?_
          refine aw_istore_n dX4_mayTake_77 rfl (by decide) ?_
          show AW _ mX4_mayTake 78 [_, _, _, _, _] _ _ _
          refine aw_iinc dX4_mayTake_78 rfl rfl (ii_1 _) (by decide) ?_
          show AW _ mX4_mayTake 81 [_, _, _, _, _] _ _ _
          refine aw_goto (q := 18) dX4_mayTake_81 rfl ?_
          refine AW.conv nx_18 ?_ rfl rfl
          simp only [nI_succ, anyB_s, Bool.not_or]
          rw [← Bool.and_assoc]
          simp [bB, tB, c28, c42]
        · skip
          refine aw_aload_n dX4_mayTake_45 rfl rfl ?_
          refine aw_getR dX4_mayTake_46 rfl rfl rfl (by decide) flX4_28 ?_
          refine aw_iload dX4_mayTake_49 rfl rfl ?_
          refine aw_iald dX4_mayTake_51 rfl rfl (by first | exact vp_in_nI (by omega) (by omega) | decide) ?_
          try simp only [hci]
          try simp only [hca]
          refine aw_bipush (-9) dX4_mayTake_52 rfl (by decide) ?_
          refine aw_icmp_eq (tgt := 72) dX4_mayTake_54 rfl rfl (fun c54 => ?_) (fun c54 => ?_)
          · skip
            refine aw_iconst 1 dX4_mayTake_72 rfl (by decide) ?_
            refine aw_goto (q := 77) dX4_mayTake_73 rfl ?_
            refine aw_istore_n dX4_mayTake_77 rfl (by decide) ?_
            show AW _ mX4_mayTake 78 [_, _, _, _, _] _ _ _
            refine aw_iinc dX4_mayTake_78 rfl rfl (ii_1 _) (by decide) ?_
            show AW _ mX4_mayTake 81 [_, _, _, _, _] _ _ _
            refine aw_goto (q := 18) dX4_mayTake_81 rfl ?_
            refine AW.conv nx_18 ?_ rfl rfl
            simp only [nI_succ, anyB_s, Bool.not_or]
            rw [← Bool.and_assoc]
            simp [bB, tB, c28, c42, c54]
          · skip
            refine aw_aload_n dX4_mayTake_57 rfl rfl ?_
            refine aw_aload_n dX4_mayTake_58 rfl rfl ?_
            refine aw_getR dX4_mayTake_59 rfl rfl rfl (by decide) flX4_28 ?_
            refine aw_iload dX4_mayTake_62 rfl rfl ?_
            refine aw_iald dX4_mayTake_64 rfl rfl (by first | exact vp_in_nI (by omega) (by omega) | decide) ?_
            try simp only [hci]
            try simp only [hca]
            refine aw_iload_n dX4_mayTake_65 rfl rfl ?_
            refine aw_V2 (M' := mX4_doClash) dX4_mayTake_66 rfl lkX4_105 gX4_doClash rfl rfl (Nat.le_of_ble_eq_true rfl) (sX4_doClashI (vp_mono ((hH i hi_18).resolve_left c54) hc) hcv ?_)
            show AW _ mX4_mayTake 69 _ (_ :: _) _ _
            refine aw_if_neB (tgt := 76) dX4_mayTake_69 rfl rfl (fun c69 => ?_) (fun c69 => ?_)
            · skip
              refine aw_iconst 0 dX4_mayTake_76 rfl (by decide) ?_
              refine aw_istore_n dX4_mayTake_77 rfl (by decide) ?_
              show AW _ mX4_mayTake 78 [_, _, _, _, _] _ _ _
              refine aw_iinc dX4_mayTake_78 rfl rfl (ii_1 _) (by decide) ?_
              show AW _ mX4_mayTake 81 [_, _, _, _, _] _ _ _
              refine aw_goto (q := 18) dX4_mayTake_81 rfl ?_
              refine AW.conv nx_18 ?_ rfl rfl
              simp only [nI_succ, anyB_s, Bool.not_or]
              rw [← Bool.and_assoc]
              simp [bB, tB, c28, c42, c54, c69]
            · skip
              refine aw_iconst 1 dX4_mayTake_72 rfl (by decide) ?_
              refine aw_goto (q := 77) dX4_mayTake_73 rfl ?_
              refine aw_istore_n dX4_mayTake_77 rfl (by decide) ?_
              show AW _ mX4_mayTake 78 [_, _, _, _, _] _ _ _
              refine aw_iinc dX4_mayTake_78 rfl rfl (ii_1 _) (by decide) ?_
              show AW _ mX4_mayTake 81 [_, _, _, _, _] _ _ _
              refine aw_goto (q := 18) dX4_mayTake_81 rfl ?_
              refine AW.conv nx_18 ?_ rfl rfl
              simp only [nI_succ, anyB_s, Bool.not_or]
              rw [← Bool.and_assoc]
              simp [bB, tB, c28, c42, c54, c69]
  · skip
    refine aw_iconst 1 dX4_mayTake_9 rfl (by decide) ?_
    refine aw_goto (q := 14) dX4_mayTake_10 rfl ?_
    refine aw_istore_n dX4_mayTake_14 rfl (by decide) ?_
    show AW _ mX4_mayTake 15 [_, _, _, _, _] _ _ _
    refine aw_iconst 0 dX4_mayTake_15 rfl (by decide) ?_
    refine aw_istore dX4_mayTake_16 rfl (by decide) ?_
    show AW _ mX4_mayTake 18 [_, _, _, _, _] _ _ _
    refine AW.conv (ax_loop (P := fun i => AW (d + 2) mX4_mayTake 18 [some (.inr (28, 0)), some (.inl (nI a)), some (.inl c), some (.inl (bB (decide (whyS σ a (ci c) = 0) && !anyB i (tB σ a c)))), some (.inl (nI i))] [] σ K) n ?_ ?_ 0 (Nat.zero_le _)) (by rw [nI_0, anyB_0]; simp [bB, c6]) rfl rfl
    · try dsimp only
      refine aw_iload dX4_mayTake_18 rfl rfl ?_
      refine aw_aload_n dX4_mayTake_20 rfl rfl ?_
      refine aw_getI dX4_mayTake_21 rfl rfl rfl flX4_75 ?_
      refine aw_icmp_ge (tgt := 84) dX4_mayTake_24 rfl rfl (fun _ => ?_) (fun z => absurd (by rw [h0]; exact Int32.le_refl _) z)
      refine aw_iload_n dX4_mayTake_84 rfl rfl ?_
      refine aw_ret dX4_mayTake_85 rfl (bB_nar _) ?_
      exact hK
    · intro i hi_18 nx_18
      try dsimp only at nx_18 ⊢
      have hci : (nI i).toNatClampNeg = i := nI_clamp (by omega)
      refine aw_iload dX4_mayTake_18 rfl rfl ?_
      refine aw_aload_n dX4_mayTake_20 rfl rfl ?_
      refine aw_getI dX4_mayTake_21 rfl rfl rfl flX4_75 ?_
      refine aw_icmp_ge (tgt := 84) dX4_mayTake_24 rfl rfl (fun z => absurd z (by rw [h0]; exact nI_ge hi_18 (by omega))) (fun _ => ?_)
      refine aw_iload_n dX4_mayTake_27 rfl rfl ?_
      refine aw_if_eqB (tgt := 76) dX4_mayTake_28 rfl rfl (fun c28 => ?_) (fun c28 => ?_)
      · skip
        refine aw_iconst 0 dX4_mayTake_76 rfl (by decide) ?_
        refine aw_istore_n dX4_mayTake_77 rfl (by decide) ?_
        show AW _ mX4_mayTake 78 [_, _, _, _, _] _ _ _
        refine aw_iinc dX4_mayTake_78 rfl rfl (ii_1 _) (by decide) ?_
        show AW _ mX4_mayTake 81 [_, _, _, _, _] _ _ _
        refine aw_goto (q := 18) dX4_mayTake_81 rfl ?_
        refine AW.conv nx_18 ?_ rfl rfl
        simp only [nI_succ, anyB_s, Bool.not_or]
        rw [← Bool.and_assoc]
        simp [bB, tB, c28]
      · skip
        refine aw_aload_n dX4_mayTake_31 rfl rfl ?_
        refine aw_getR dX4_mayTake_32 rfl rfl rfl (by decide) flX4_19 ?_
        refine aw_iload_n dX4_mayTake_35 rfl rfl ?_
        refine aw_iald dX4_mayTake_36 rfl rfl (by first | exact vp_in_nI (by omega) (by omega) | decide) ?_
        try simp only [hci]
        try simp only [hca]
        refine aw_iload dX4_mayTake_37 rfl rfl ?_
        refine aw_S2 (M' := mX4_has) dX4_mayTake_39 rfl lkX4_86 gX4_has (Nat.le_of_ble_eq_true rfl) (sX4_has ?_)
        show AW _ mX4_mayTake 42 _ (_ :: _) _ _
        refine aw_if_eqB (tgt := 72) dX4_mayTake_42 rfl rfl (fun c42 => ?_) (fun c42 => ?_)
        · skip
          refine aw_iconst 1 dX4_mayTake_72 rfl (by decide) ?_
          refine aw_goto (q := 77) dX4_mayTake_73 rfl ?_
          refine aw_istore_n dX4_mayTake_77 rfl (by decide) ?_
          show AW _ mX4_mayTake 78 [_, _, _, _, _] _ _ _
          refine aw_iinc dX4_mayTake_78 rfl rfl (ii_1 _) (by decide) ?_
          show AW _ mX4_mayTake 81 [_, _, _, _, _] _ _ _
          refine aw_goto (q := 18) dX4_mayTake_81 rfl ?_
          refine AW.conv nx_18 ?_ rfl rfl
          simp only [nI_succ, anyB_s, Bool.not_or]
          rw [← Bool.and_assoc]
          simp [bB, tB, c28, c42]
        · skip
          refine aw_aload_n dX4_mayTake_45 rfl rfl ?_
          refine aw_getR dX4_mayTake_46 rfl rfl rfl (by decide) flX4_28 ?_
          refine aw_iload dX4_mayTake_49 rfl rfl ?_
          refine aw_iald dX4_mayTake_51 rfl rfl (by first | exact vp_in_nI (by omega) (by omega) | decide) ?_
          try simp only [hci]
          try simp only [hca]
          refine aw_bipush (-9) dX4_mayTake_52 rfl (by decide) ?_
          refine aw_icmp_eq (tgt := 72) dX4_mayTake_54 rfl rfl (fun c54 => ?_) (fun c54 => ?_)
          · skip
            refine aw_iconst 1 dX4_mayTake_72 rfl (by decide) ?_
            refine aw_goto (q := 77) dX4_mayTake_73 rfl ?_
            refine aw_istore_n dX4_mayTake_77 rfl (by decide) ?_
            show AW _ mX4_mayTake 78 [_, _, _, _, _] _ _ _
            refine aw_iinc dX4_mayTake_78 rfl rfl (ii_1 _) (by decide) ?_
            show AW _ mX4_mayTake 81 [_, _, _, _, _] _ _ _
            refine aw_goto (q := 18) dX4_mayTake_81 rfl ?_
            refine AW.conv nx_18 ?_ rfl rfl
            simp only [nI_succ, anyB_s, Bool.not_or]
            rw [← Bool.and_assoc]
            simp [bB, tB, c28, c42, c54]
          · skip
            refine aw_aload_n dX4_mayTake_57 rfl rfl ?_
            refine aw_aload_n dX4_mayTake_58 rfl rfl ?_
            refine aw_getR dX4_mayTake_59 rfl rfl rfl (by decide) flX4_28 ?_
            refine aw_iload dX4_mayTake_62 rfl rfl ?_
            refine aw_iald dX4_mayTake_64 rfl rfl (by first | exact vp_in_nI (by omega) (by omega) | decide) ?_
            try simp only [hci]
            try simp only [hca]
            refine aw_iload_n dX4_mayTake_65 rfl rfl ?_
            refine aw_V2 (M' := mX4_doClash) dX4_mayTake_66 rfl lkX4_105 gX4_doClash rfl rfl (Nat.le_of_ble_eq_true rfl) (sX4_doClashI (vp_mono ((hH i hi_18).resolve_left c54) hc) hcv ?_)
            show AW _ mX4_mayTake 69 _ (_ :: _) _ _
            refine aw_if_neB (tgt := 76) dX4_mayTake_69 rfl rfl (fun c69 => ?_) (fun c69 => ?_)
            · skip
              refine aw_iconst 0 dX4_mayTake_76 rfl (by decide) ?_
              refine aw_istore_n dX4_mayTake_77 rfl (by decide) ?_
              show AW _ mX4_mayTake 78 [_, _, _, _, _] _ _ _
              refine aw_iinc dX4_mayTake_78 rfl rfl (ii_1 _) (by decide) ?_
              show AW _ mX4_mayTake 81 [_, _, _, _, _] _ _ _
              refine aw_goto (q := 18) dX4_mayTake_81 rfl ?_
              refine AW.conv nx_18 ?_ rfl rfl
              simp only [nI_succ, anyB_s, Bool.not_or]
              rw [← Bool.and_assoc]
              simp [bB, tB, c28, c42, c54, c69]
            · skip
              refine aw_iconst 1 dX4_mayTake_72 rfl (by decide) ?_
              refine aw_goto (q := 77) dX4_mayTake_73 rfl ?_
              refine aw_istore_n dX4_mayTake_77 rfl (by decide) ?_
              show AW _ mX4_mayTake 78 [_, _, _, _, _] _ _ _
              refine aw_iinc dX4_mayTake_78 rfl rfl (ii_1 _) (by decide) ?_
              show AW _ mX4_mayTake 81 [_, _, _, _, _] _ _ _
              refine aw_goto (q := 18) dX4_mayTake_81 rfl ?_
              refine AW.conv nx_18 ?_ rfl rfl
              simp only [nI_succ, anyB_s, Bool.not_or]
              rw [← Bool.and_assoc]
              simp [bB, tB, c28, c42, c54, c69]
end
section
set_option maxRecDepth 4000 in
theorem sX4_brokenBy {d : Nat} {σ : SS} {K : ax_K} {v : Int32} {n cn : Nat} (hn : n ≤ 6) (h0 : σ 28 0 0 = nI n) (hc : cn ≤ 4) (h9 : σ 28 0 9 = nI cn) (hT : okT n cn (σ 44 0)) (hK : ∀ f, K (some (brS σ (σ 44 0) n cn v)) (rp σ 45 0 f)) : AW (d + 3) mX4_brokenBy 0 (ax_en mX4_brokenBy [.inr (28, 0), .inl v]) [] σ K := by
  show AW _ mX4_brokenBy 0 [_, _, _] _ _ _
  refine aw_aload_n dX4_brokenBy_0 rfl rfl ?_
  refine aw_iload_n dX4_brokenBy_1 rfl rfl ?_
  refine aw_V1 (M' := mX4_hasOther) dX4_brokenBy_2 rfl lkX4_121 gX4_hasOther rfl rfl (Nat.le_of_ble_eq_true rfl) (sX4_hasOther hn h0 ?_)
  show AW _ mX4_brokenBy 5 _ (_ :: _) _ _
  refine aw_if_eqB (tgt := 10) dX4_brokenBy_5 rfl rfl (fun c5 => ?_) (fun c5 => ?_)
  · skip
    refine aw_aload_n dX4_brokenBy_10 rfl rfl ?_
    refine aw_V0 (M' := mX4_hasUnfit) dX4_brokenBy_11 rfl lkX4_124 gX4_hasUnfit rfl rfl (Nat.le_of_ble_eq_true rfl) (sX4_hasUnfit hn h0 hc hT ?_)
    show AW _ mX4_brokenBy 14 _ (_ :: _) _ _
    refine aw_if_eqB (tgt := 19) dX4_brokenBy_14 rfl rfl (fun c14 => ?_) (fun c14 => ?_)
    · skip
      refine aw_aload_n dX4_brokenBy_19 rfl rfl ?_
      refine aw_V0 (M' := mX4_hasClash) dX4_brokenBy_20 rfl lkX4_128 gX4_hasClash rfl rfl (Nat.le_of_ble_eq_true rfl) (sX4_hasClash hn h0 hc hT ?_)
      show AW _ mX4_brokenBy 23 _ (_ :: _) _ _
      refine aw_if_eqB (tgt := 28) dX4_brokenBy_23 rfl rfl (fun c23 => ?_) (fun c23 => ?_)
      · skip
        refine aw_aload_n dX4_brokenBy_28 rfl rfl ?_
        refine aw_iload_n dX4_brokenBy_29 rfl rfl ?_
        refine aw_V1 (M' := mX4_hasTooMuch) dX4_brokenBy_30 rfl lkX4_131 gX4_hasTooMuch rfl rfl (Nat.le_of_ble_eq_true rfl) (sX4_hasTooMuch hn h0 hc h9 ?_)
        show AW _ mX4_brokenBy 33 _ (_ :: _) _ _
        refine aw_if_eqB (tgt := 38) dX4_brokenBy_33 rfl rfl (fun c33 => ?_) (fun c33 => ?_)
        · skip
          refine aw_aload_n dX4_brokenBy_38 rfl rfl ?_
          refine aw_V0 (M' := mX4_fills) dX4_brokenBy_39 rfl lkX4_134 gX4_fills rfl rfl (Nat.le_of_ble_eq_true rfl) (sX4_fills hn h0 hc h9 ?_)
          show AW _ mX4_brokenBy 42 _ _ _ _
          refine aw_aload_n dX4_brokenBy_42 rfl rfl ?_
          refine aw_V0 (M' := mX4_hasEmpty) dX4_brokenBy_43 rfl lkX4_137 gX4_hasEmpty rfl rfl (Nat.le_of_ble_eq_true rfl) (sX4_hasEmpty hn (by rw [rp_nk (by decide)]; exact h0) ?_)
          simp only [rp_nk, rp_at, ne_eq, Nat.reduceEqDiff, not_false_eq_true, eB_fr]
          show AW _ mX4_brokenBy 46 _ (_ :: _) _ _
          refine aw_if_eqB (tgt := 51) dX4_brokenBy_46 rfl rfl (fun c46 => ?_) (fun c46 => ?_)
          · skip
            refine aw_aload_n dX4_brokenBy_51 rfl rfl ?_
            refine aw_V0 (M' := mX4_listOf) dX4_brokenBy_52 rfl lkX4_140 gX4_listOf rfl rfl (Nat.le_of_ble_eq_true rfl) (sX4_listOf hn (by rw [rp_nk (by decide)]; exact h0) ?_)
            have hli : sumI n (fun t => (rp σ 45 0 (fun t => if t < n then fl (σ 29 0) (σ 38 0) (σ 44 0) cn t else σ 45 0 t)) 45 0 t * (rp σ 45 0 (fun t => if t < n then fl (σ 29 0) (σ 38 0) (σ 44 0) cn t else σ 45 0 t)) 31 0 t) = liS σ (σ 44 0) n cn := sumI_congr (fun t ht => by rw [rp_at, rp_nk (by decide), if_pos ht])
            rw [hli]
            show AW _ mX4_brokenBy 55 _ (_ :: _) _ _
            refine aw_istore_n dX4_brokenBy_55 rfl (by decide) ?_
            show AW _ mX4_brokenBy 56 [_, _, _] _ _ _
            refine aw_iload_n dX4_brokenBy_56 rfl rfl ?_
            refine aw_aload_n dX4_brokenBy_57 rfl rfl ?_
            refine aw_getI dX4_brokenBy_58 rfl rfl rfl flX4_55 ?_
            try simp only [rp_nk, ne_eq, Nat.reduceEqDiff, not_false_eq_true]
            refine aw_icmp_gt (tgt := 73) dX4_brokenBy_61 rfl rfl (fun c61 => ?_) (fun c61 => ?_)
            · skip
              try replace c70 := Int32.not_le.mp c70
              refine aw_bipush 6 dX4_brokenBy_73 rfl (by decide) ?_
              refine aw_goto (q := 79) dX4_brokenBy_75 rfl ?_
              refine aw_ret dX4_brokenBy_79 rfl rfl ?_
              exact kk_c (hK _) (by simp [brS, c5, c14, c23, c33, c46, c61]) rfl
            · skip
              refine aw_iload_n dX4_brokenBy_64 rfl rfl ?_
              refine aw_ineg dX4_brokenBy_65 rfl ?_
              refine aw_aload_n dX4_brokenBy_66 rfl rfl ?_
              refine aw_getI dX4_brokenBy_67 rfl rfl rfl flX4_55 ?_
              try simp only [rp_nk, ne_eq, Nat.reduceEqDiff, not_false_eq_true]
              refine aw_icmp_le (tgt := 78) dX4_brokenBy_70 rfl rfl (fun c70 => ?_) (fun c70 => ?_)
              · skip
                replace c61 := c61
                replace c70 := Int32.not_lt.mpr c70
                refine aw_iconst 0 dX4_brokenBy_78 rfl (by decide) ?_
                refine aw_ret dX4_brokenBy_79 rfl rfl ?_
                exact kk_c (hK _) (by simp [brS, c5, c14, c23, c33, c46, c61, c70]) rfl
              · skip
                try replace c70 := Int32.not_le.mp c70
                refine aw_bipush 6 dX4_brokenBy_73 rfl (by decide) ?_
                refine aw_goto (q := 79) dX4_brokenBy_75 rfl ?_
                refine aw_ret dX4_brokenBy_79 rfl rfl ?_
                exact kk_c (hK _) (by simp [brS, c5, c14, c23, c33, c46, c61, c70]) rfl
          · skip
            refine aw_iconst 5 dX4_brokenBy_49 rfl (by decide) ?_
            refine aw_ret dX4_brokenBy_50 rfl rfl ?_
            exact kk_c (hK _) (by simp [brS, c5, c14, c23, c33, c46]) rfl
        · skip
          refine aw_iconst 4 dX4_brokenBy_36 rfl (by decide) ?_
          refine aw_ret dX4_brokenBy_37 rfl rfl ?_
          exact kk_c (hK (σ 45 0)) (by simp [brS, c5, c14, c23, c33]) (rp_self _ _ _)
      · skip
        refine aw_iconst 3 dX4_brokenBy_26 rfl (by decide) ?_
        refine aw_ret dX4_brokenBy_27 rfl rfl ?_
        exact kk_c (hK (σ 45 0)) (by simp [brS, c5, c14, c23]) (rp_self _ _ _)
    · skip
      refine aw_iconst 2 dX4_brokenBy_17 rfl (by decide) ?_
      refine aw_ret dX4_brokenBy_18 rfl rfl ?_
      exact kk_c (hK (σ 45 0)) (by simp [brS, c5, c14]) (rp_self _ _ _)
  · skip
    refine aw_iconst 1 dX4_brokenBy_8 rfl (by decide) ?_
    refine aw_ret dX4_brokenBy_9 rfl rfl ?_
    exact kk_c (hK (σ 45 0)) (by simp [brS, c5]) (rp_self _ _ _)
set_option maxRecDepth 4000 in
theorem sX4_broken {d : Nat} {σ : SS} {K : ax_K} {v : Int32} {n cn : Nat} (hn : n ≤ 6) (h0 : σ 28 0 0 = nI n) (hc : cn ≤ 4) (h9 : σ 28 0 9 = nI cn) (hPl : okT n cn (σ 34 0)) (k1 : ¬ ixn v (2 ^ cn) → K (some (-2)) σ) (k2 : ixn v (2 ^ cn) → ∀ f, K (some (brS σ (σ 34 0) n cn v)) (rp (rp σ 44 0 (fun t => if t < n then σ 34 0 t else σ 44 0 t)) 45 0 f)) : AW (d + 4) mX4_broken 0 (ax_en mX4_broken [.inr (28, 0), .inl v]) [] σ K := by
  show AW _ mX4_broken 0 [_, _] _ _ _
  refine aw_aload_n dX4_broken_0 rfl rfl ?_
  refine aw_iload_n dX4_broken_1 rfl rfl ?_
  refine aw_V1 (M' := mX4_isSetOfCargoes) dX4_broken_2 rfl lkX4_144 gX4_isSetOfCargoes rfl rfl (Nat.le_of_ble_eq_true rfl) (sX4_isSetOfCargoes hc h9 ?_)
  show AW _ mX4_broken 5 _ (_ :: _) _ _
  refine aw_if_neb (tgt := 11) dX4_broken_5 rfl rfl (fun c5 => ?_) (fun c5 => ?_)
  · skip
    refine aw_aload_n dX4_broken_11 rfl rfl ?_
    refine aw_V0 (M' := mX4_triesPlan) dX4_broken_12 rfl lkX4_147 gX4_triesPlan rfl rfl (Nat.le_of_ble_eq_true rfl) (sX4_triesPlan hn h0 ?_)
    show AW _ mX4_broken 15 _ _ _ _
    refine aw_aload_n dX4_broken_15 rfl rfl ?_
    refine aw_iload_n dX4_broken_16 rfl rfl ?_
    refine aw_V1 (M' := mX4_brokenBy) dX4_broken_17 rfl lkX4_150 gX4_brokenBy rfl rfl (Nat.le_of_ble_eq_true rfl) (sX4_brokenBy hn (by rw [rp_nk (by decide)]; exact h0) hc (by rw [rp_nk (by decide)]; exact h9) (fun t ht => by rw [rp_at, if_pos ht]; exact hPl t ht) (fun f => ?_))
    show AW _ mX4_broken 20 _ (_ :: _) _ _
    refine aw_ret dX4_broken_20 rfl rfl ?_
    refine kk_c (k2 c5 f) ?_ rfl
    rw [rp_at, brS_44, brS_congr (tr' := σ 34 0) (fun t ht => if_pos ht)]
  · skip
    refine aw_bipush (-2) dX4_broken_8 rfl (by decide) ?_
    refine aw_ret dX4_broken_10 rfl rfl ?_
    exact k1 c5
set_option maxRecDepth 4000 in
theorem sX4_ofPlan {d : Nat} {σ : SS} {K : ax_K} {w : Int32} {n cn : Nat} (hn : n ≤ 6) (h0 : σ 28 0 0 = nI n) (hc : cn ≤ 4) (h9 : σ 28 0 9 = nI cn) (hPl : okT n cn (σ 34 0)) (hLat : ∀ x, x < 18 → lt9 (σ 33 0 x)) (hLiq : ∀ c, c < 4 → ∃ j, j < 8 ∧ σ 37 0 c = nI j) (k1 : (∀ j, j < 3 → w ≠ nI j) → K (some (-2)) σ) (k2 : w = 0 → ∀ f, K (some (coS σ (σ 34 0) n)) (rp (rp σ 44 0 (fun t => if t < n then σ 34 0 t else σ 44 0 t)) 45 0 f)) (k3 : w = 1 → ∀ f, K (some (usS (σ 34 0) n)) (rp (rp σ 44 0 (fun t => if t < n then σ 34 0 t else σ 44 0 t)) 45 0 f)) (k4 : w = 2 → ∀ f, K (some (liS σ (σ 34 0) n cn + 100000)) (rp (rp σ 44 0 (fun t => if t < n then σ 34 0 t else σ 44 0 t)) 45 0 f)) : AW (d + 2) mX4_ofPlan 0 (ax_en mX4_ofPlan [.inr (28, 0), .inl w]) [] σ K := by
  show AW _ mX4_ofPlan 0 [_, _] _ _ _
  refine aw_iload_n dX4_ofPlan_0 rfl rfl ?_
  refine aw_iconst 0 dX4_ofPlan_1 rfl (by decide) ?_
  refine aw_iconst 2 dX4_ofPlan_2 rfl (by decide) ?_
  refine aw_S3 (M' := mX4_within) dX4_ofPlan_3 rfl lkX4_71 gX4_within (Nat.le_of_ble_eq_true rfl) (sX4_within ?_)
  show AW _ mX4_ofPlan 6 _ (_ :: _) _ _
  refine aw_if_neb (tgt := 12) dX4_ofPlan_6 rfl rfl (fun c6 => ?_) (fun c6 => ?_)
  · skip
    refine aw_aload_n dX4_ofPlan_12 rfl rfl ?_
    refine aw_V0 (M' := mX4_triesPlan) dX4_ofPlan_13 rfl lkX4_147 gX4_triesPlan rfl rfl (Nat.le_of_ble_eq_true rfl) (sX4_triesPlan hn h0 ?_)
    show AW _ mX4_ofPlan 16 _ _ _ _
    refine aw_aload_n dX4_ofPlan_16 rfl rfl ?_
    refine aw_V0 (M' := mX4_fills) dX4_ofPlan_17 rfl lkX4_134 gX4_fills rfl rfl (Nat.le_of_ble_eq_true rfl) (sX4_fills hn (by rw [rp_nk (by decide)]; exact h0) hc (by rw [rp_nk (by decide)]; exact h9) ?_)
    show AW _ mX4_ofPlan 20 _ _ _ _
    refine aw_iload_n dX4_ofPlan_20 rfl rfl ?_
    refine aw_if_ne (tgt := 31) dX4_ofPlan_21 rfl rfl (fun c21 => ?_) (fun c21 => ?_)
    · skip
      refine aw_iload_n dX4_ofPlan_31 rfl rfl ?_
      refine aw_iconst 1 dX4_ofPlan_32 rfl (by decide) ?_
      refine aw_icmp_ne (tgt := 43) dX4_ofPlan_33 rfl rfl (fun c33 => ?_) (fun c33 => ?_)
      · skip
        refine aw_aload_n dX4_ofPlan_43 rfl rfl ?_
        refine aw_V0 (M' := mX4_listOf) dX4_ofPlan_44 rfl lkX4_140 gX4_listOf rfl rfl (Nat.le_of_ble_eq_true rfl) (sX4_listOf hn (by rw [rp_nk (by decide), rp_nk (by decide)]; exact h0) ?_)
        show AW _ mX4_ofPlan 47 _ (_ :: _) _ _
        refine aw_ldc dX4_ofPlan_47 rfl kcX4_159 ?_
        refine aw_iadd dX4_ofPlan_49 rfl ?_
        refine aw_ret dX4_ofPlan_50 rfl rfl ?_
        have hw : w = 1 ∨ w = 2 := by
          obtain ⟨j, hj, rfl⟩ := bd_of 2 (by decide) c6
          match j, hj with
          | 0, _ => exact absurd (by decide) c21
          | 1, _ => exact Or.inl (by decide)
          | 2, _ => exact Or.inr (by decide)
          | j + 3, hj => exact absurd hj (by omega)
        first | exact kk_c (k3 c33 _) (by rw [rp_nk (by decide), rp_at]; exact congrArg some (usS_congr (fun t ht => (if_pos ht).symm))) rfl | exact kk_c (k4 (hw.resolve_left c33) _) (congrArg (fun z => some (z + 100000)) (sumI_congr (fun t ht => by simp only [rp_nk, rp_at, ne_eq, Nat.reduceEqDiff, not_false_eq_true, ht, if_true]; rw [fl_congr (fun u hu => (if_pos (show u < n by omega)).symm)]))) rfl
      · skip
        refine aw_aload_n dX4_ofPlan_36 rfl rfl ?_
        refine aw_V0 (M' := mX4_usedOf) dX4_ofPlan_37 rfl lkX4_156 gX4_usedOf rfl rfl (Nat.le_of_ble_eq_true rfl) (sX4_usedOf hn (by rw [rp_nk (by decide), rp_nk (by decide)]; exact h0) ?_)
        show AW _ mX4_ofPlan 40 _ (_ :: _) _ _
        refine aw_goto (q := 50) dX4_ofPlan_40 rfl ?_
        refine aw_ret dX4_ofPlan_50 rfl rfl ?_
        have hw : w = 1 ∨ w = 2 := by
          obtain ⟨j, hj, rfl⟩ := bd_of 2 (by decide) c6
          match j, hj with
          | 0, _ => exact absurd (by decide) c21
          | 1, _ => exact Or.inl (by decide)
          | 2, _ => exact Or.inr (by decide)
          | j + 3, hj => exact absurd hj (by omega)
        first | exact kk_c (k3 c33 _) (by rw [rp_nk (by decide), rp_at]; exact congrArg some (usS_congr (fun t ht => (if_pos ht).symm))) rfl | exact kk_c (k4 (hw.resolve_left c33) _) (congrArg (fun z => some (z + 100000)) (sumI_congr (fun t ht => by simp only [rp_nk, rp_at, ne_eq, Nat.reduceEqDiff, not_false_eq_true, ht, if_true]; rw [fl_congr (fun u hu => (if_pos (show u < n by omega)).symm)]))) rfl
    · skip
      refine aw_aload_n dX4_ofPlan_24 rfl rfl ?_
      refine aw_V0 (M' := mX4_costOf) dX4_ofPlan_25 rfl lkX4_153 gX4_costOf rfl rfl (Nat.le_of_ble_eq_true rfl) (sX4_costOf hn (by rw [rp_nk (by decide), rp_nk (by decide)]; exact h0) hc (fun t ht => by rw [rp_nk (by decide), rp_at, if_pos ht]; exact hPl t ht) hLat hLiq ?_)
      show AW _ mX4_ofPlan 28 _ (_ :: _) _ _
      refine aw_goto (q := 50) dX4_ofPlan_28 rfl ?_
      refine aw_ret dX4_ofPlan_50 rfl rfl ?_
      exact kk_c (k2 c21 _) (by rw [rp_nk (by decide), rp_at]; exact congrArg some (coS_congr (fun t ht => (if_pos ht).symm))) rfl
  · skip
    refine aw_bipush (-2) dX4_ofPlan_9 rfl (by decide) ?_
    refine aw_ret dX4_ofPlan_11 rfl rfl ?_
    exact k1 (fun j hj z => c6 (by subst z; match j, hj with
      | 0, _ => decide
      | 1, _ => decide
      | 2, _ => decide
      | j + 3, hj => exact absurd hj (by omega)))
set_option maxRecDepth 4000 in
theorem sX4_triesBest {d : Nat} {σ : SS} {K : ax_K} {n cn : Nat} (hn : n ≤ 6) (h0 : σ 28 0 0 = nI n) (hc : cn ≤ 4) (h9 : σ 28 0 9 = nI cn) (hK : K none (rp (rp σ 44 0 (fun t => if t < n then σ 46 0 t else σ 44 0 t)) 45 0 (fun t => if t < n then fl (σ 29 0) (σ 38 0) (σ 46 0) cn t else σ 45 0 t))) : AW (d + 1) mX4_triesBest 0 (ax_en mX4_triesBest [.inr (28, 0)]) [] σ K := by
  show AW _ mX4_triesBest 0 [_, _] _ _ _
  refine aw_iconst 0 dX4_triesBest_0 rfl (by decide) ?_
  refine aw_istore_n dX4_triesBest_1 rfl (by decide) ?_
  show AW _ mX4_triesBest 2 [_, _] _ _ _
  refine AW.conv (ax_loop (P := fun i => AW (d + 1) mX4_triesBest 2 [some (.inr (28, 0)), some (.inl (nI i))] [] (rp σ 44 0 (fun t => if t < i then σ 46 0 t else σ 44 0 t)) K) n ?_ ?_ 0 (Nat.zero_le _)) (by first | (simp only [nI_0]; done) | (simp only [nI_0]; rfl)) rfl (by rw [up_0, rp_self])
  · try dsimp only
    refine aw_iload_n dX4_triesBest_2 rfl rfl ?_
    refine aw_aload_n dX4_triesBest_3 rfl rfl ?_
    refine aw_getI dX4_triesBest_4 rfl rfl rfl flX4_75 ?_
    refine aw_icmp_ge (tgt := 28) dX4_triesBest_7 rfl rfl (fun _ => ?_) (fun z => absurd (by rw [rp_nk (by decide), h0]; exact Int32.le_refl _) z)
    refine aw_aload_n dX4_triesBest_28 rfl rfl ?_
    refine aw_V0 (M' := mX4_fills) dX4_triesBest_29 rfl lkX4_134 gX4_fills rfl rfl (Nat.le_of_ble_eq_true rfl) (sX4_fills hn (by rw [rp_nk (by decide)]; exact h0) hc (by rw [rp_nk (by decide)]; exact h9) ?_)
    show AW _ mX4_triesBest 32 _ _ _ _
    refine aw_vret dX4_triesBest_32 rfl ?_
    refine kk_c hK rfl (congrArg (rp _ 45 0) (funext fun t => ?_))
    by_cases ht : t < n
    · simp only [rp_nk, rp_at, ne_eq, Nat.reduceEqDiff, not_false_eq_true, ht, if_true]
      rw [fl_congr (fun u hu => (if_pos (show u < n by omega)).symm)]
    · simp only [rp_nk, ne_eq, Nat.reduceEqDiff, not_false_eq_true, ht, if_false]
  · intro i hi_2 nx_2
    try dsimp only at nx_2 ⊢
    have hci : (nI i).toNatClampNeg = i := nI_clamp (by omega)
    refine aw_iload_n dX4_triesBest_2 rfl rfl ?_
    refine aw_aload_n dX4_triesBest_3 rfl rfl ?_
    refine aw_getI dX4_triesBest_4 rfl rfl rfl flX4_75 ?_
    refine aw_icmp_ge (tgt := 28) dX4_triesBest_7 rfl rfl (fun z => absurd z (by rw [rp_nk (by decide), h0]; exact nI_ge hi_2 (by omega))) (fun _ => ?_)
    refine aw_aload_n dX4_triesBest_10 rfl rfl ?_
    refine aw_getR dX4_triesBest_11 rfl rfl rfl (by decide) flX4_59 ?_
    refine aw_iload_n dX4_triesBest_14 rfl rfl ?_
    refine aw_aload_n dX4_triesBest_15 rfl rfl ?_
    refine aw_getR dX4_triesBest_16 rfl rfl rfl (by decide) flX4_65 ?_
    refine aw_iload_n dX4_triesBest_19 rfl rfl ?_
    refine aw_iald dX4_triesBest_20 rfl rfl (by first | exact vp_in_nI (by omega) (by omega) | decide) ?_
    refine aw_iast dX4_triesBest_21 rfl rfl (by first | exact vp_in_nI (by omega) (by omega) | decide) ?_
    refine aw_iinc dX4_triesBest_22 rfl rfl (ii_1 _) (by decide) ?_
    show AW _ mX4_triesBest 25 [_, _] _ _ _
    refine aw_goto (q := 2) dX4_triesBest_25 rfl ?_
    refine AW.conv nx_2 (by first | (simp only [nI_succ]; done) | (simp only [nI_succ]; rfl)) rfl ?_
    simp only [rp_nk, rp_at, rp_rp, pk_us, ne_eq, Nat.reduceEqDiff, not_false_eq_true, hci, Nat.lt_irrefl, if_false]
    rw [up_lt]
end
section
set_option maxRecDepth 4000 in
theorem sX4_lays {d : Nat} {σ : SS} {K : ax_K} {n r m : Nat} (hn : n ≤ 6) (h0 : σ 28 0 0 = nI n) (hm0 : 0 < m) (hm : m ≤ 5) (hr : r < 2 ^ 20) (hK : K none (rp σ 44 0 (fun t => if t < n then σ 47 0 (dg r m n t) else σ 44 0 t))) : AW d mX4_lays 0 (ax_en mX4_lays [.inr (28, 0), .inl (nI r), .inl (nI m)]) [] σ K := by
  show AW _ mX4_lays 0 [_, _, _, _, _] _ _ _
  refine aw_iload_n dX4_lays_0 rfl rfl ?_
  refine aw_istore_n dX4_lays_1 rfl (by decide) ?_
  show AW _ mX4_lays 2 [_, _, _, _, _] _ _ _
  refine aw_aload_n dX4_lays_2 rfl rfl ?_
  refine aw_getI dX4_lays_3 rfl rfl rfl flX4_75 ?_
  refine aw_iconst 1 dX4_lays_6 rfl (by decide) ?_
  refine aw_isub dX4_lays_7 rfl ?_
  rw [h0]
  refine aw_istore dX4_lays_8 rfl (by decide) ?_
  show AW _ mX4_lays 10 [_, _, _, _, _] _ _ _
  refine AW.conv (ax_loop (P := fun i => AW d mX4_lays 10 [some (.inr (28, 0)), some (.inl (nI r)), some (.inl (nI m)), some (.inl (nI (r / m ^ i))), some (.inl (nI (n - i) - 1))] [] (rp σ 44 0 (lrow (σ 47 0) (σ 44 0) r m n i)) K) n ?_ ?_ 0 (Nat.zero_le _)) (by simp only [Nat.pow_zero, Nat.div_one, Nat.sub_zero]) rfl (by rw [lrow_0, rp_self])
  · try dsimp only
    rw [Nat.sub_self]
    refine aw_iload dX4_lays_10 rfl rfl ?_
    refine aw_if_lt (tgt := 40) dX4_lays_12 rfl rfl (fun _ => ?_) (fun z => absurd (by decide) z)
    refine aw_vret dX4_lays_40 rfl ?_
    exact kk_c hK rfl (by rw [lrow_n])
  · intro i hi_10 nx_10
    try dsimp only at nx_10 ⊢
    have hk : nI (n - i) - 1 = nI (n - i - 1) := by
      rw [show n - i = (n - i - 1) + 1 by omega, nI_pred, Nat.add_sub_cancel]
    have hdv : r / m ^ i < 2 ^ 20 := Nat.lt_of_le_of_lt (Nat.div_le_self _ _) hr
    have hnz : ¬ nI m = 0 := nI_ne0 hm0 (by omega)
    have hmod : r / m ^ i % m < m := Nat.mod_lt _ hm0
    have hcm : (nI (r / m ^ i % m)).toNatClampNeg = r / m ^ i % m := nI_clamp (by omega)
    have hct : (nI (n - i - 1)).toNatClampNeg = n - i - 1 := nI_clamp (by omega)
    rw [hk]
    refine aw_iload dX4_lays_10 rfl rfl ?_
    refine aw_if_lt (tgt := 40) dX4_lays_12 rfl rfl (fun z => absurd z (nI_pos (by omega))) (fun _ => ?_)
    refine aw_aload_n dX4_lays_15 rfl rfl ?_
    refine aw_getR dX4_lays_16 rfl rfl rfl (by decide) flX4_59 ?_
    refine aw_iload dX4_lays_19 rfl rfl ?_
    refine aw_aload_n dX4_lays_21 rfl rfl ?_
    refine aw_getR dX4_lays_22 rfl rfl rfl (by decide) flX4_68 ?_
    refine aw_iload_n dX4_lays_25 rfl rfl ?_
    refine aw_iload_n dX4_lays_26 rfl rfl ?_
    refine aw_irem dX4_lays_27 rfl hnz ?_
    rw [pk_rem (by omega) hm0 (by omega)]
    refine aw_iald dX4_lays_28 rfl rfl (by exact vp_in_nI (by omega) (by omega)) ?_
    refine aw_iast dX4_lays_29 rfl rfl (by first | exact vp_in_nI (by omega) (by omega) | decide) ?_
    refine aw_iload_n dX4_lays_30 rfl rfl ?_
    refine aw_iload_n dX4_lays_31 rfl rfl ?_
    refine aw_idiv dX4_lays_32 rfl hnz ?_
    rw [pk_div (by omega) hm0 (by omega)]
    refine aw_istore_n dX4_lays_33 rfl (by decide) ?_
    show AW _ mX4_lays 34 [_, _, _, _, _] _ _ _
    refine aw_iinc dX4_lays_34 rfl rfl (ii_m1 _) (by decide) ?_
    show AW _ mX4_lays 37 [_, _, _, _, _] _ _ _
    refine aw_goto (q := 10) dX4_lays_37 rfl ?_
    refine AW.conv nx_10 ?_ rfl ?_
    · rw [Nat.pow_succ, ← Nat.div_div_eq_div_mul, Nat.sub_sub]
    · simp only [rp_nk, rp_at, rp_rp, pk_us, ne_eq, Nat.reduceEqDiff, not_false_eq_true, hcm, hct]
      rw [lrow_s hi_10]
set_option maxRecDepth 4000 in
theorem sX4_keepsBest {d : Nat} {σ : SS} {K : ax_K} {n cn : Nat} (hn : n ≤ 6) (h0 : σ 28 0 0 = nI n) (hc : cn ≤ 4) (hT : okT n cn (σ 44 0)) (hLat : ∀ x, x < 18 → lt9 (σ 33 0 x)) (hLiq : ∀ c, c < 4 → ∃ j, j < 8 ∧ σ 37 0 c = nI j) (k1 : kpB σ n = false → K none σ) (k2 : kpB σ n = true → K none (rp (rp σ 28 0 (upd (upd (σ 28 0) 21 (coS σ (σ 44 0) n)) 22 (usS (σ 44 0) n))) 46 0 (fun t => if t < n then σ 44 0 t else σ 46 0 t))) : AW (d + 2) mX4_keepsBest 0 (ax_en mX4_keepsBest [.inr (28, 0)]) [] σ K := by
  have kj : kpB σ n = true → AW (d + 2) mX4_keepsBest 42 [some (.inr (28, 0)), some (.inl (coS σ (σ 44 0) n)), some (.inl (usS (σ 44 0) n)), none] [] σ K := by
    intro hkp
    replace k2 := k2 hkp
    refine aw_aload_n dX4_keepsBest_42 rfl rfl ?_
    refine aw_iload_n dX4_keepsBest_43 rfl rfl ?_
    refine aw_putI dX4_keepsBest_44 rfl rfl rfl flX4_170 (pf_4_21 _) ?_
    refine aw_aload_n dX4_keepsBest_47 rfl rfl ?_
    refine aw_iload_n dX4_keepsBest_48 rfl rfl ?_
    refine aw_putI dX4_keepsBest_49 rfl rfl rfl flX4_173 (pf_4_22 _) ?_
    refine aw_iconst 0 dX4_keepsBest_52 rfl (by decide) ?_
    refine aw_istore_n dX4_keepsBest_53 rfl (by decide) ?_
    show AW _ mX4_keepsBest 54 [_, _, _, _] _ _ _
    refine AW.conv (ax_loop (P := fun i => AW (d + 2) mX4_keepsBest 54 [some (.inr (28, 0)), some (.inl (coS σ (σ 44 0) n)), some (.inl (usS (σ 44 0) n)), some (.inl (nI i))] [] (rp (rp σ 28 0 (upd (upd (σ 28 0) 21 (coS σ (σ 44 0) n)) 22 (usS (σ 44 0) n))) 46 0 (fun t => if t < i then σ 44 0 t else σ 46 0 t)) K) n ?_ ?_ 0 (Nat.zero_le _)) (by first | (simp only [nI_0]; done) | (simp only [nI_0]; rfl)) rfl (by simp only [rp_nk, rp_at, rp_rp, pk_us, ne_eq, Nat.reduceEqDiff, not_false_eq_true, up_0]; rw [rp_self2 (by decide)])
    · try dsimp only
      refine aw_iload_n dX4_keepsBest_54 rfl rfl ?_
      refine aw_aload_n dX4_keepsBest_55 rfl rfl ?_
      refine aw_getI dX4_keepsBest_56 rfl rfl rfl flX4_75 ?_
      refine aw_icmp_ge (tgt := 80) dX4_keepsBest_59 rfl rfl (fun _ => ?_) (fun z => absurd (by rw [rp_nk (by decide), rp_at, pk_un (by decide), pk_un (by decide), h0]; exact Int32.le_refl _) z)
      refine aw_vret dX4_keepsBest_80 rfl ?_
      exact k2
    · intro i hi_54 nx_54
      try dsimp only at nx_54 ⊢
      have hci : (nI i).toNatClampNeg = i := nI_clamp (by omega)
      refine aw_iload_n dX4_keepsBest_54 rfl rfl ?_
      refine aw_aload_n dX4_keepsBest_55 rfl rfl ?_
      refine aw_getI dX4_keepsBest_56 rfl rfl rfl flX4_75 ?_
      refine aw_icmp_ge (tgt := 80) dX4_keepsBest_59 rfl rfl (fun z => absurd z (by rw [rp_nk (by decide), rp_at, pk_un (by decide), pk_un (by decide), h0]; exact nI_ge hi_54 (by omega))) (fun _ => ?_)
      refine aw_aload_n dX4_keepsBest_62 rfl rfl ?_
      refine aw_getR dX4_keepsBest_63 rfl rfl rfl (by decide) flX4_65 ?_
      refine aw_iload_n dX4_keepsBest_66 rfl rfl ?_
      refine aw_aload_n dX4_keepsBest_67 rfl rfl ?_
      refine aw_getR dX4_keepsBest_68 rfl rfl rfl (by decide) flX4_59 ?_
      refine aw_iload_n dX4_keepsBest_71 rfl rfl ?_
      refine aw_iald dX4_keepsBest_72 rfl rfl (by first | exact vp_in_nI (by omega) (by omega) | decide) ?_
      refine aw_iast dX4_keepsBest_73 rfl rfl (by first | exact vp_in_nI (by omega) (by omega) | decide) ?_
      refine aw_iinc dX4_keepsBest_74 rfl rfl (ii_1 _) (by decide) ?_
      show AW _ mX4_keepsBest 77 [_, _, _, _] _ _ _
      refine aw_goto (q := 54) dX4_keepsBest_77 rfl ?_
      refine AW.conv nx_54 (by first | (simp only [nI_succ]; done) | (simp only [nI_succ]; rfl)) rfl ?_
      simp only [rp_nk, rp_at, rp_rp, pk_us, ne_eq, Nat.reduceEqDiff, not_false_eq_true, hci]
      rw [up_lt]
  show AW _ mX4_keepsBest 0 [_, _, _, _] _ _ _
  refine aw_aload_n dX4_keepsBest_0 rfl rfl ?_
  refine aw_V0 (M' := mX4_costOf) dX4_keepsBest_1 rfl lkX4_153 gX4_costOf rfl rfl (Nat.le_of_ble_eq_true rfl) (sX4_costOf hn h0 hc hT hLat hLiq ?_)
  show AW _ mX4_keepsBest 4 _ (_ :: _) _ _
  refine aw_istore_n dX4_keepsBest_4 rfl (by decide) ?_
  show AW _ mX4_keepsBest 5 [_, _, _, _] _ _ _
  refine aw_aload_n dX4_keepsBest_5 rfl rfl ?_
  refine aw_V0 (M' := mX4_usedOf) dX4_keepsBest_6 rfl lkX4_156 gX4_usedOf rfl rfl (Nat.le_of_ble_eq_true rfl) (sX4_usedOf hn h0 ?_)
  show AW _ mX4_keepsBest 9 _ (_ :: _) _ _
  refine aw_istore_n dX4_keepsBest_9 rfl (by decide) ?_
  show AW _ mX4_keepsBest 10 [_, _, _, _] _ _ _
  refine aw_aload_n dX4_keepsBest_10 rfl rfl ?_
  refine aw_getI dX4_keepsBest_11 rfl rfl rfl flX4_160 ?_
  refine aw_iconst 1 dX4_keepsBest_14 rfl (by decide) ?_
  refine aw_icmp_eq (tgt := 42) dX4_keepsBest_15 rfl rfl (fun c15 => ?_) (fun c15 => ?_)
  · skip
    exact kj (by simp [kpB, c15])
  · skip
    refine aw_iload_n dX4_keepsBest_18 rfl rfl ?_
    refine aw_aload_n dX4_keepsBest_19 rfl rfl ?_
    refine aw_getI dX4_keepsBest_20 rfl rfl rfl flX4_170 ?_
    refine aw_icmp_lt (tgt := 42) dX4_keepsBest_23 rfl rfl (fun c23 => ?_) (fun c23 => ?_)
    · skip
      exact kj (by simp [kpB, c15, c23])
    · skip
      refine aw_iload_n dX4_keepsBest_26 rfl rfl ?_
      refine aw_aload_n dX4_keepsBest_27 rfl rfl ?_
      refine aw_getI dX4_keepsBest_28 rfl rfl rfl flX4_170 ?_
      refine aw_icmp_ne (tgt := 80) dX4_keepsBest_31 rfl rfl (fun c31 => ?_) (fun c31 => ?_)
      · skip
        try replace c39 := Int32.not_lt.mpr c39
        refine aw_vret dX4_keepsBest_80 rfl ?_
        exact k1 (by simp [kpB, c15, c23, c31])
      · skip
        skip
        refine aw_iload_n dX4_keepsBest_34 rfl rfl ?_
        refine aw_aload_n dX4_keepsBest_35 rfl rfl ?_
        refine aw_getI dX4_keepsBest_36 rfl rfl rfl flX4_173 ?_
        refine aw_icmp_ge (tgt := 80) dX4_keepsBest_39 rfl rfl (fun c39 => ?_) (fun c39 => ?_)
        · skip
          try replace c39 := Int32.not_lt.mpr c39
          refine aw_vret dX4_keepsBest_80 rfl ?_
          exact k1 (by simp [kpB, c15, c23, c31, c39])
        · skip
          exact kj (by simp [kpB, c15, c23, c31, Int32.not_le.mp c39])
set_option maxRecDepth 4000 in
theorem sX4_findBest {d : Nat} {σ : SS} {K : ax_K} {s n cn : Nat} (hn : n ≤ 6) (h0 : σ 28 0 0 = nI n) (hc : cn ≤ 4) (h9 : σ 28 0 9 = nI cn) (hs16 : s < 16) (hLat : ∀ x, x < 18 → lt9 (σ 33 0 x)) (hLiq : ∀ c, c < 4 → ∃ j, j < 8 ∧ σ 37 0 c = nI j) (hK : ∀ f g, K none (mS σ (fbS σ n cn s (((chs s cn).length + 1) ^ n) (0, σ 28 0 21, σ 28 0 22, σ 46 0)).1 (fbS σ n cn s (((chs s cn).length + 1) ^ n) (0, σ 28 0 21, σ 28 0 22, σ 46 0)).2.1 (fbS σ n cn s (((chs s cn).length + 1) ^ n) (0, σ 28 0 21, σ 28 0 22, σ 46 0)).2.2.1 f g (fbS σ n cn s (((chs s cn).length + 1) ^ n) (0, σ 28 0 21, σ 28 0 22, σ 46 0)).2.2.2 (upd (chr (chs s cn) (σ 47 0)) (chs s cn).length (-9)))) : AW (d + 4) mX4_findBest 0 (ax_en mX4_findBest [.inr (28, 0), .inl (nI s)]) [] σ K := by
  show AW _ mX4_findBest 0 [_, _, _, _, _] _ _ _
  refine aw_iconst 0 dX4_findBest_0 rfl (by decide) ?_
  refine aw_istore_n dX4_findBest_1 rfl (by decide) ?_
  show AW _ mX4_findBest 2 [_, _, _, _, _] _ _ _
  refine aw_iconst 0 dX4_findBest_2 rfl (by decide) ?_
  refine aw_istore_n dX4_findBest_3 rfl (by decide) ?_
  show AW _ mX4_findBest 4 [_, _, _, _, _] _ _ _
  refine AW.conv (ax_loop (P := fun i => AW (d + 4) mX4_findBest 4 [some (.inr (28, 0)), some (.inl (nI s)), some (.inl (nI (chs s i).length)), some (.inl (nI i)), none] [] (rp σ 47 0 (chr (chs s i) (σ 47 0))) K) cn ?_ ?_ 0 (Nat.zero_le _)) (by simp only [nI_0]; rfl) rfl (by rw [show chr (chs s 0) (σ 47 0) = σ 47 0 from rfl, rp_self])
  · try dsimp only
    refine aw_iload_n dX4_findBest_4 rfl rfl ?_
    refine aw_aload_n dX4_findBest_5 rfl rfl ?_
    refine aw_getI dX4_findBest_6 rfl rfl rfl flX4_92 ?_
    refine aw_icmp_ge (tgt := 36) dX4_findBest_9 rfl rfl (fun _ => ?_) (fun z => absurd (by rw [rp_nk (by decide), h9]; exact Int32.le_refl _) z)
    have hlc := chs_len s cn
    have hcl : (nI (chs s cn).length).toNatClampNeg = (chs s cn).length := nI_clamp (by omega)
    refine aw_aload_n dX4_findBest_36 rfl rfl ?_
    refine aw_getR dX4_findBest_37 rfl rfl rfl (by decide) flX4_68 ?_
    refine aw_iload_n dX4_findBest_40 rfl rfl ?_
    refine aw_bipush (-9) dX4_findBest_41 rfl (by decide) ?_
    refine aw_iast dX4_findBest_43 rfl rfl (by exact vp_in_nI (by omega) (by omega)) ?_
    simp only [rp_nk, rp_at, rp_rp, pk_us, ne_eq, Nat.reduceEqDiff, not_false_eq_true, hcl]
    refine aw_iinc dX4_findBest_44 rfl rfl (ii_1 _) (by decide) ?_
    show AW _ mX4_findBest 47 [_, _, _, _, _] _ _ _
    rw [← nI_succ]
    refine aw_iconst 1 dX4_findBest_47 rfl (by decide) ?_
    refine aw_istore_n dX4_findBest_48 rfl (by decide) ?_
    show AW _ mX4_findBest 49 [_, _, _, _, _] _ _ _
    refine aw_iconst 0 dX4_findBest_49 rfl (by decide) ?_
    refine aw_istore dX4_findBest_50 rfl (by decide) ?_
    show AW _ mX4_findBest 52 [_, _, _, _, _] _ _ _
    refine AW.conv (ax_loop (P := fun i => AW (d + 4) mX4_findBest 52 [some (.inr (28, 0)), some (.inl (nI s)), some (.inl (nI ((chs s cn).length + 1))), some (.inl (nI (((chs s cn).length + 1) ^ i))), some (.inl (nI i))] [] (rp σ 47 0 (upd (chr (chs s cn) (σ 47 0)) (chs s cn).length (-9))) K) n ?_ ?_ 0 (Nat.zero_le _)) (by simp only [nI_0, nI_succ, Nat.pow_zero]; first | done | rfl | decide) rfl rfl
    · try dsimp only
      refine aw_iload dX4_findBest_52 rfl rfl ?_
      refine aw_aload_n dX4_findBest_54 rfl rfl ?_
      refine aw_getI dX4_findBest_55 rfl rfl rfl flX4_75 ?_
      refine aw_icmp_ge (tgt := 71) dX4_findBest_58 rfl rfl (fun _ => ?_) (fun z => absurd (by rw [rp_nk (by decide), h0]; exact Int32.le_refl _) z)
      have hpw := pow_le6 (show (chs s cn).length + 1 ≤ 5 by omega) hn
      refine aw_aload_n dX4_findBest_71 rfl rfl ?_
      refine aw_iconst 0 dX4_findBest_72 rfl (by decide) ?_
      refine aw_putI dX4_findBest_73 rfl rfl rfl flX4_160 (pf_4_20 _) ?_
      refine aw_iconst 0 dX4_findBest_76 rfl (by decide) ?_
      refine aw_istore dX4_findBest_77 rfl (by decide) ?_
      show AW _ mX4_findBest 79 [_, _, _, _, _] _ _ _
      refine AW.conv (ax_loop (P := fun r => ∀ f g : Nat → Int32, AW (d + 4) mX4_findBest 79 [some (.inr (28, 0)), some (.inl (nI s)), some (.inl (nI ((chs s cn).length + 1))), some (.inl (nI (((chs s cn).length + 1) ^ n))), some (.inl (nI r))] [] (mS σ (fbS σ n cn s r (0, σ 28 0 21, σ 28 0 22, σ 46 0)).1 (fbS σ n cn s r (0, σ 28 0 21, σ 28 0 22, σ 46 0)).2.1 (fbS σ n cn s r (0, σ 28 0 21, σ 28 0 22, σ 46 0)).2.2.1 f g (fbS σ n cn s r (0, σ 28 0 21, σ 28 0 22, σ 46 0)).2.2.2 (upd (chr (chs s cn) (σ 47 0)) (chs s cn).length (-9))) K) (((chs s cn).length + 1) ^ n) ?_ ?_ 0 (Nat.zero_le _) (σ 44 0) (σ 45 0)) (by simp only [nI_0]) rfl (by rw [show fbS σ n cn s 0 (0, σ 28 0 21, σ 28 0 22, σ 46 0) = (0, σ 28 0 21, σ 28 0 22, σ 46 0) from rfl]; exact mS_start σ _)
      · try dsimp only
        intro f g
        refine aw_iload dX4_findBest_79 rfl rfl ?_
        refine aw_iload_n dX4_findBest_81 rfl rfl ?_
        refine aw_icmp_ge (tgt := 120) dX4_findBest_82 rfl rfl (fun _ => ?_) (fun z => absurd (Int32.le_refl _) z)
        refine aw_vret dX4_findBest_120 rfl ?_
        exact hK _ _
      · intro r hi_79 nx_79
        try dsimp only at nx_79 ⊢
        intro f g
        have hrlt : r < 2 ^ 20 := by omega
        have h0s : ∀ x y z f g b c, (mS σ x y z f g b c) 28 0 0 = nI n := fun x y z f g b c => (mS_r28j (by decide)).trans h0
        have h9s : ∀ x y z f g b c, (mS σ x y z f g b c) 28 0 9 = nI cn := fun x y z f g b c => (mS_r28j (by decide)).trans h9
        refine aw_iload dX4_findBest_79 rfl rfl ?_
        refine aw_iload_n dX4_findBest_81 rfl rfl ?_
        refine aw_icmp_ge (tgt := 120) dX4_findBest_82 rfl rfl (fun z => absurd z (nI_ge hi_79 (by omega))) (fun _ => ?_)
        refine aw_aload_n dX4_findBest_85 rfl rfl ?_
        refine aw_iload dX4_findBest_86 rfl rfl ?_
        refine aw_iload_n dX4_findBest_88 rfl rfl ?_
        refine aw_V2 (M' := mX4_lays) dX4_findBest_89 rfl lkX4_163 gX4_lays rfl rfl (Nat.le_of_ble_eq_true rfl) (sX4_lays hn (h0s _ _ _ _ _ _ _) (by omega) (by omega) hrlt ?_)
        simp only [mS_44, mS_r44, mS_r47]
        rw [rw_lay]
        show AW _ mX4_findBest 92 _ _ _ _
        refine aw_aload_n dX4_findBest_92 rfl rfl ?_
        refine aw_iload_n dX4_findBest_93 rfl rfl ?_
        refine aw_V1 (M' := mX4_brokenBy) dX4_findBest_94 rfl lkX4_150 gX4_brokenBy rfl rfl (Nat.le_of_ble_eq_true rfl) (sX4_brokenBy hn (h0s _ _ _ _ _ _ _) hc (h9s _ _ _ _ _ _ _) (okT_rw (by omega)) (fun f2 => ?_))
        rw [brS_mS, mS_r44, mS_45, brS_congr (tr' := rwS s cn n r) (fun t ht => if_pos ht)]
        show AW _ mX4_findBest 97 _ (_ :: _) _ _
        refine aw_if_ne (tgt := 114) dX4_findBest_97 rfl rfl (fun c97 => ?_) (fun c97 => ?_)
        · skip
          refine aw_iinc dX4_findBest_114 rfl rfl (ii_1 _) (by decide) ?_
          show AW _ mX4_findBest 117 [_, _, _, _, _] _ _ _
          refine aw_goto (q := 79) dX4_findBest_117 rfl ?_
          exact AW.conv (nx_79 _ _) (by rw [nI_succ r]) rfl (by rw [fbS_s, stS, if_neg c97])
        · skip
          refine aw_aload_n dX4_findBest_100 rfl rfl ?_
          refine aw_dup dX4_findBest_101 rfl ?_
          refine aw_getI dX4_findBest_102 rfl rfl rfl flX4_160 ?_
          refine aw_iconst 1 dX4_findBest_105 rfl (by decide) ?_
          refine aw_iadd dX4_findBest_106 rfl ?_
          refine aw_putI dX4_findBest_107 rfl rfl rfl flX4_160 (pf_4_20 _) ?_
          rw [mS_right]
          refine aw_aload_n dX4_findBest_110 rfl rfl ?_
          refine aw_V0 (M' := mX4_keepsBest) dX4_findBest_111 rfl lkX4_167 gX4_keepsBest rfl rfl (Nat.le_of_ble_eq_true rfl) (sX4_keepsBest hn (h0s _ _ _ _ _ _ _) hc (okT_rw (by omega)) hLat hLiq (fun hkp => ?_) (fun hkp => ?_))
          · rw [kpB_mS] at hkp
            show AW _ mX4_findBest 114 _ _ _ _
            refine aw_iinc dX4_findBest_114 rfl rfl (ii_1 _) (by decide) ?_
            refine aw_goto (q := 79) dX4_findBest_117 rfl ?_
            refine AW.conv (nx_79 (fun t => if t < n then rwS s cn n r t else f t) f2) (by rw [nI_succ r]; rfl) rfl ?_
            rw [fbS_s, stS_f (fun t ht => if_pos ht) c97 hkp]
          · rw [kpB_mS] at hkp
            rw [mS_keep]
            show AW _ mX4_findBest 114 _ _ _ _
            refine aw_iinc dX4_findBest_114 rfl rfl (ii_1 _) (by decide) ?_
            refine aw_goto (q := 79) dX4_findBest_117 rfl ?_
            refine AW.conv (nx_79 (fun t => if t < n then rwS s cn n r t else f t) f2) (by rw [nI_succ r]; rfl) rfl ?_
            rw [fbS_s, stS_t (fun t ht => if_pos ht) c97 hkp]
            rfl
    · intro i hi_52 nx_52
      try dsimp only at nx_52 ⊢
      refine aw_iload dX4_findBest_52 rfl rfl ?_
      refine aw_aload_n dX4_findBest_54 rfl rfl ?_
      refine aw_getI dX4_findBest_55 rfl rfl rfl flX4_75 ?_
      refine aw_icmp_ge (tgt := 71) dX4_findBest_58 rfl rfl (fun z => absurd z (by rw [rp_nk (by decide), h0]; exact nI_ge hi_52 (by omega))) (fun _ => ?_)
      refine aw_iload_n dX4_findBest_61 rfl rfl ?_
      refine aw_iload_n dX4_findBest_62 rfl rfl ?_
      refine aw_imul dX4_findBest_63 rfl ?_
      refine aw_istore_n dX4_findBest_64 rfl (by decide) ?_
      show AW _ mX4_findBest 65 [_, _, _, _, _] _ _ _
      refine aw_iinc dX4_findBest_65 rfl rfl (ii_1 _) (by decide) ?_
      show AW _ mX4_findBest 68 [_, _, _, _, _] _ _ _
      refine aw_goto (q := 52) dX4_findBest_68 rfl ?_
      refine AW.conv nx_52 ?_ rfl rfl
      rw [pk_mul, Nat.pow_succ, nI_succ i]
  · intro i hi_4 nx_4
    try dsimp only at nx_4 ⊢
    have hci : (nI i).toNatClampNeg = i := nI_clamp (by omega)
    have hli := chs_len s i
    have hcl : (nI (chs s i).length).toNatClampNeg = (chs s i).length := nI_clamp (by omega)
    refine aw_iload_n dX4_findBest_4 rfl rfl ?_
    refine aw_aload_n dX4_findBest_5 rfl rfl ?_
    refine aw_getI dX4_findBest_6 rfl rfl rfl flX4_92 ?_
    refine aw_icmp_ge (tgt := 36) dX4_findBest_9 rfl rfl (fun z => absurd z (by rw [rp_nk (by decide), h9]; exact nI_ge hi_4 (by omega))) (fun _ => ?_)
    refine aw_iload_n dX4_findBest_12 rfl rfl ?_
    refine aw_iload_n dX4_findBest_13 rfl rfl ?_
    refine aw_S2 (M' := mX4_has) dX4_findBest_14 rfl lkX4_86 gX4_has (Nat.le_of_ble_eq_true rfl) (sX4_has ?_)
    show AW _ mX4_findBest 17 _ (_ :: _) _ _
    refine aw_if_eqB (tgt := 30) dX4_findBest_17 rfl rfl (fun c17 => ?_) (fun c17 => ?_)
    · skip
      refine aw_iinc dX4_findBest_30 rfl rfl (ii_1 _) (by decide) ?_
      show AW _ mX4_findBest 33 [_, _, _, _, _] _ _ _
      refine aw_goto (q := 4) dX4_findBest_33 rfl ?_
      refine AW.conv nx_4 ?_ rfl ?_
      · simp [chs_s, c17, nI_succ]
      · try simp only [rp_nk, rp_at, rp_rp, pk_us, ne_eq, Nat.reduceEqDiff, not_false_eq_true, hcl, chr_up]
        simp [chs_s, c17]
    · skip
      refine aw_aload_n dX4_findBest_20 rfl rfl ?_
      refine aw_getR dX4_findBest_21 rfl rfl rfl (by decide) flX4_68 ?_
      refine aw_iload_n dX4_findBest_24 rfl rfl ?_
      refine aw_iload_n dX4_findBest_25 rfl rfl ?_
      refine aw_iast dX4_findBest_26 rfl rfl (by exact vp_in_nI (by omega) (by omega)) ?_
      refine aw_iinc dX4_findBest_27 rfl rfl (ii_1 _) (by decide) ?_
      show AW _ mX4_findBest 30 [_, _, _, _, _] _ _ _
      refine aw_iinc dX4_findBest_30 rfl rfl (ii_1 _) (by decide) ?_
      show AW _ mX4_findBest 33 [_, _, _, _, _] _ _ _
      refine aw_goto (q := 4) dX4_findBest_33 rfl ?_
      refine AW.conv nx_4 ?_ rfl ?_
      · simp [chs_s, c17, nI_succ]
      · try simp only [rp_nk, rp_at, rp_rp, pk_us, ne_eq, Nat.reduceEqDiff, not_false_eq_true, hcl, chr_up]
        simp [chs_s, c17]
end
section
/-! ===== words of the specs, second part ===== -/
theorem mS_mS (σ : SS) (x y z x' y' z' : Int32) (f g b c f' g' b' c' : Nat → Int32) : mS (mS σ x y z f g b c) x' y' z' f' g' b' c' = mS σ x' y' z' f' g' b' c' := by
  funext k i
  unfold mS rp
  by_cases h28 : k = 28 ∧ i = 0
  · obtain ⟨rfl, rfl⟩ := h28
    funext j
    simp only [Nat.reduceEqDiff, false_and, if_false, and_self, if_true, upd]
    by_cases h1 : j = 22 <;> by_cases h2 : j = 21 <;> by_cases h3 : j = 20 <;> simp [h1, h2, h3]
  · by_cases h4 : k = 44 ∧ i = 0
    · obtain ⟨rfl, rfl⟩ := h4; simp
    · by_cases h5 : k = 45 ∧ i = 0
      · obtain ⟨rfl, rfl⟩ := h5; simp
      · by_cases h6 : k = 46 ∧ i = 0
        · obtain ⟨rfl, rfl⟩ := h6; simp
        · by_cases h7 : k = 47 ∧ i = 0
          · obtain ⟨rfl, rfl⟩ := h7; simp
          · simp [h28, h4, h5, h6, h7]
theorem stS_mS (σ : SS) (x y z : Int32) (f g b c : Nat → Int32) (n cn : Nat) (v : Int32) (tr : Nat → Int32) (a : SA) : stS (mS σ x y z f g b c) n cn v tr a = stS σ n cn v tr a := rfl
theorem fbS_mS (σ : SS) (x y z : Int32) (f g b c : Nat → Int32) (n cn s k : Nat) (a : SA) : fbS (mS σ x y z f g b c) n cn s k a = fbS σ n cn s k a := lp_congr k (fun r _ a => stS_mS σ x y z f g b c n cn (nI s) (rwS s cn n r) a)
/-- how many choices, how many rows -/
abbrev mC (s cn : Nat) : Nat := (chs s cn).length + 1
/-- how many right rows of set s -/
def rtS (σ : SS) (n cn s k : Nat) : Int32 := lp k (fun r a => if brS σ (rwS s cn n r) n cn (nI s) = 0 then a + 1 else a) 0
theorem fbS_1 (σ : SS) (n cn s : Nat) (y z : Int32) (b : Nat → Int32) : ∀ k, (fbS σ n cn s k (0, y, z, b)).1 = rtS σ n cn s k
  | 0 => rfl
  | k + 1 => by
    rw [fbS_s, stS, rtS, lp_s]
    have h := fbS_1 σ n cn s y z b k
    rw [rtS] at h
    by_cases e : brS σ (rwS s cn n k) n cn (nI s) = 0
    · simp only [e, if_true]
      rw [kpS]
      split <;> simp [h]
    · simp only [e, if_false, h]
/-- the taken set, of those up to k -/
def tkS (σ : SS) (n cn k : Nat) : Nat := lp k (fun i its => if btB σ cn (i + 1) its = true ∧ 0 < rtS σ n cn (i + 1) (mC (i + 1) cn ^ n) then i + 1 else its) 0
theorem tkS_s (σ : SS) (n cn k : Nat) : tkS σ n cn (k + 1) = if btB σ cn (k + 1) (tkS σ n cn k) = true ∧ 0 < rtS σ n cn (k + 1) (mC (k + 1) cn ^ n) then k + 1 else tkS σ n cn k := rfl
theorem tkS_le (σ : SS) (n cn : Nat) : ∀ k, tkS σ n cn k ≤ k
  | 0 => Nat.le_refl 0
  | k + 1 => by
    rw [tkS_s]
    have := tkS_le σ n cn k
    split <;> omega
theorem btB_mS (σ : SS) (x y z : Int32) (f g b c : Nat → Int32) (cn s t : Nat) : btB (mS σ x y z f g b c) cn s t = btB σ cn s t := rfl
/-- what may be asked of the best -/
def bwOK (w : Int32) (n : Nat) : Prop := (0 ≤ w ∧ w ≤ 3) ∨ (∃ t, t < n ∧ w = nI (10 + t)) ∨ (∃ t, t < n ∧ w = nI (20 + t))
abbrev bw2 (w : Int32) (n : Nat) : Prop := (∃ t, t < n ∧ w = nI (10 + t)) ∨ (∃ t, t < n ∧ w = nI (20 + t))
theorem bw_sub {w : Int32} {k : Nat} (hk : k < 100) (h : nI k ≤ w) : (w - nI k).toInt = w.toInt - k := by
  rw [Int32.le_iff_toInt_le, nI_toInt (by omega)] at h
  have h2 := Int32.toInt_lt w
  rw [Int32.toInt_sub, nI_toInt (by omega)]
  apply Int.bmod_eq_of_le <;> omega
theorem bw_ix {w : Int32} {n k : Nat} (hk : k < 100) (hn : n ≤ 6) (h : nI k ≤ w) : ixn (w - nI k) n ↔ ∃ t, t < n ∧ w = nI (k + t) := by
  have e := bw_sub hk h
  constructor
  · intro z
    obtain ⟨t, ht, et⟩ := ixn_of z (by omega)
    refine ⟨t, ht, ?_⟩
    apply Int32.toInt_inj.mp
    rw [et, nI_toInt (by omega)] at e
    rw [nI_toInt (by omega)]
    omega
  · rintro ⟨t, ht, rfl⟩
    rw [nI_toInt (by omega)] at e
    exact ⟨by omega, by omega⟩
theorem bw_lt {w : Int32} {n k : Nat} (hk : k < 100) (hn : n ≤ 6) (h : w < nI k) : ¬ ∃ t, t < n ∧ w = nI (k + t) := by
  rintro ⟨t, ht, rfl⟩
  rw [Int32.lt_iff_toInt_lt, nI_toInt (by omega), nI_toInt (by omega)] at h
  omega
theorem bw_ge {w : Int32} {n : Nat} (hn : n ≤ 6) (h : nI 20 ≤ w) : ¬ ∃ t, t < n ∧ w = nI (10 + t) := by
  rintro ⟨t, ht, rfl⟩
  rw [Int32.le_iff_toInt_le, nI_toInt (by omega), nI_toInt (by omega)] at h
  omega
def hB (h : Nat → Int32) (t : Nat) : Bool := decide (h t ≠ -9)
/-- the last liquids while a cargo is unloaded -/
def ulL (h : Nat → Int32) (c l : Int32) (L : Nat → Int32) (i : Nat) : Nat → Int32 := lp i (fun t L => if h t = c then latUp L t l else L) L
theorem ulL_s (h : Nat → Int32) (c l : Int32) (L : Nat → Int32) (i : Nat) : ulL h c l L (i + 1) = if h i = c then latUp (ulL h c l L i) i l else ulL h c l L i := rfl
def ulH (h : Nat → Int32) (c : Int32) (v : Int32) (x : Nat → Int32) (i : Nat) : Nat → Int32 := fun t => if t < i ∧ h t = c then v else x t
theorem ulH_0 (h : Nat → Int32) (c v : Int32) (x : Nat → Int32) : ulH h c v x 0 = x := by funext t; simp [ulH]
theorem ulH_t {h : Nat → Int32} {c v : Int32} {x : Nat → Int32} {i : Nat} (e : h i = c) : upd (ulH h c v x i) i v = ulH h c v x (i + 1) := by
  funext t
  unfold upd ulH
  by_cases h1 : t = i
  · subst h1; simp [e]
  · by_cases h2 : t < i
    · simp [h1, h2, show t < i + 1 by omega]
    · simp [h1, h2, show ¬ t < i + 1 by omega]
theorem ulH_f {h : Nat → Int32} {c v : Int32} {x : Nat → Int32} {i : Nat} (e : ¬ h i = c) : ulH h c v x i = ulH h c v x (i + 1) := by
  funext t
  unfold ulH
  by_cases h1 : t = i
  · subst h1; simp [e]
  · by_cases h2 : t < i
    · simp [h2, show t < i + 1 by omega]
    · simp [h2, show ¬ t < i + 1 by omega]
/-- the state behind unloading -/
def ulS (σ : SS) (c l : Int32) (i : Nat) : SS := rp (rp (rp σ 33 0 (ulL (σ 35 0) c l (σ 33 0) i)) 35 0 (ulH (σ 35 0) c (-9) (σ 35 0) i)) 36 0 (ulH (σ 35 0) c 0 (σ 36 0) i)
theorem ulS_0 (σ : SS) (c l : Int32) : ulS σ c l 0 = σ := by
  unfold ulS
  rw [ulH_0, ulH_0, show ulL (σ 35 0) c l (σ 33 0) 0 = σ 33 0 from rfl, rp_self, rp_self, rp_self]
theorem ulS_t {σ : SS} {c l : Int32} {i : Nat} (e : σ 35 0 i = c) : rp (rp (rp (ulS σ c l i) 33 0 (latUp (ulL (σ 35 0) c l (σ 33 0) i) i l)) 35 0 (upd (ulH (σ 35 0) c (-9) (σ 35 0) i) i (-9))) 36 0 (upd (ulH (σ 35 0) c 0 (σ 36 0) i) i 0) = ulS σ c l (i + 1) := by
  rw [ulH_t e, ulH_t e]
  unfold ulS
  rw [ulL_s, if_pos e]
  funext k j
  unfold rp
  by_cases h3 : k = 33 ∧ j = 0
  · simp [h3]
  · by_cases h5 : k = 35 ∧ j = 0
    · simp [h5]
    · by_cases h6 : k = 36 ∧ j = 0
      · simp [h6]
      · simp [h3, h5, h6]
theorem ulS_f {σ : SS} {c l : Int32} {i : Nat} (e : ¬ σ 35 0 i = c) : ulS σ c l i = ulS σ c l (i + 1) := by
  unfold ulS
  rw [ulL_s, if_neg e, ← ulH_f e, ← ulH_f e]
/-- whether v may be poured from a to b -/
def prB (σ : SS) (n a b : Nat) (v : Int32) : Bool := (!decide (σ 36 0 a < v)) && ((!decide (σ 29 0 b - σ 36 0 b < v)) && (if σ 35 0 b = -9 then (decide (whyS σ b (ci (σ 35 0 a)) = 0) && !anyB n (tB σ b (σ 35 0 a))) else decide (σ 35 0 b = σ 35 0 a)))
/-- the state behind pouring -/
def prS (σ : SS) (a b : Nat) (v : Int32) : SS :=
  let σ1 := rp (rp (rp σ 28 0 (upd (σ 28 0) 25 (σ 28 0 25 + (if σ 35 0 b = -9 then wfS σ b (ci (σ 35 0 a)) else 0)))) 35 0 (upd (σ 35 0) b (σ 35 0 a))) 36 0 (upd (upd (σ 36 0) b (σ 36 0 b + v)) a (σ 36 0 a - v))
  if σ 36 0 a - v = 0 then rp (rp (rp σ1 33 0 (latUp (σ 33 0) a (σ 37 0 (ci (σ 35 0 a))))) 35 0 (upd (upd (σ 35 0) b (σ 35 0 a)) a (-9))) 36 0 (upd (upd (upd (σ 36 0) b (σ 36 0 b + v)) a (σ 36 0 a - v)) a 0) else σ1
def manyM (σ : SS) (n : Nat) (j : Nat) : Int32 := match j with
  | 0 => σ 28 0 0
  | 1 => σ 28 0 9
  | 2 => σ 28 0 0 - cntI n (fun t => σ 35 0 t = -9)
  | 3 => σ 28 0 25
  | _ => sumI n (fun t => σ 36 0 t * σ 31 0 t) + 100000
theorem mS_rp {σ : SS} {x y z : Int32} {f g b c h : Nat → Int32} {k : Nat} (hk : k ≠ 28 ∧ k ≠ 44 ∧ k ≠ 45 ∧ k ≠ 46 ∧ k ≠ 47) : rp (mS σ x y z f g b c) k 0 h = mS (rp σ k 0 h) x y z f g b c := by
  funext k' i
  have e28 : (rp σ k 0 h) 28 0 = σ 28 0 := rp_nk (fun e => hk.1 e.symm)
  unfold mS
  rw [e28]
  unfold rp
  by_cases hh : k' = k ∧ i = 0
  · obtain ⟨rfl, rfl⟩ := hh
    simp [hk]
  · simp [hh]
theorem mS_25 (σ : SS) (x y z v : Int32) (f g b c : Nat → Int32) : rp (mS σ x y z f g b c) 28 0 (upd ((mS σ x y z f g b c) 28 0) 25 v) = mS (rp σ 28 0 (upd (σ 28 0) 25 v)) x y z f g b c := by
  funext k i
  unfold mS rp
  by_cases h28 : k = 28 ∧ i = 0
  · obtain ⟨rfl, rfl⟩ := h28
    funext j
    simp only [Nat.reduceEqDiff, false_and, if_false, and_self, if_true, upd]
    by_cases h1 : j = 22 <;> by_cases h2 : j = 21 <;> by_cases h3 : j = 20 <;> by_cases h4 : j = 25 <;> simp [h1, h2, h3, h4]
  · simp [h28]
/-- the state behind loading the row B -/
def ldS (σ : SS) (n cn : Nat) (B : Nat → Int32) (co : Int32) : SS := rp (rp (rp σ 35 0 (fun t => if t < n then B t else σ 35 0 t)) 36 0 (fun t => if t < n then fl (σ 29 0) (σ 38 0) B cn t else σ 36 0 t)) 28 0 (upd (σ 28 0) 25 (σ 28 0 25 + co))
theorem ldS_eq (σ : SS) (n cn : Nat) (B : Nat → Int32) (x y z co : Int32) (f g b c : Nat → Int32) : rp (rp (rp (mS σ x y z f g b c) 35 0 (fun t => if t < n then B t else σ 35 0 t)) 36 0 (fun t => if t < n then fl (σ 29 0) (σ 38 0) B cn t else σ 36 0 t)) 28 0 (upd ((mS σ x y z f g b c) 28 0) 25 ((mS σ x y z f g b c) 28 0 25 + co)) = mS (ldS σ n cn B co) x y z f g b c := by
  rw [mS_rp (by decide), mS_rp (by decide)]
  have h := mS_25 (rp (rp σ 35 0 (fun t => if t < n then B t else σ 35 0 t)) 36 0 (fun t => if t < n then fl (σ 29 0) (σ 38 0) B cn t else σ 36 0 t)) x y z (σ 28 0 25 + co) f g b c
  exact h
theorem rp_c36 (σ : SS) (a b c : Nat → Int32) : rp (rp (rp σ 35 0 a) 36 0 b) 35 0 c = rp (rp σ 35 0 c) 36 0 b := by
  funext k i
  unfold rp
  by_cases h5 : k = 35 ∧ i = 0
  · simp [h5]
  · simp [h5]
end
section
set_option maxRecDepth 4000 in
theorem sX4_many {d : Nat} {σ : SS} {K : ax_K} {w : Int32} {n : Nat} (hn : n ≤ 6) (h0 : σ 28 0 0 = nI n) (k1 : (∀ j, j < 5 → w ≠ nI j) → K (some (-2)) σ) (k2 : ∀ j, j < 5 → w = nI j → K (some (manyM σ n j)) σ) : AW (d + 1) mX4_many 0 (ax_en mX4_many [.inr (28, 0), .inl w]) [] σ K := by
  show AW _ mX4_many 0 [_, _] _ _ _
  refine aw_iload_n dX4_many_0 rfl rfl ?_
  refine aw_tsw 5 dX4_many_1 rfl (by decide) (by decide) (fun j hj sx => ?_) (fun sx => ?_)
  · match j, hj with
    | 0, _ =>
      refine AW.conv (pc := 36) ?_ rfl rfl rfl
      refine aw_aload_n dX4_many_36 rfl rfl ?_
      refine aw_getI dX4_many_37 rfl rfl rfl flX4_75 ?_
      refine aw_ret dX4_many_40 rfl rfl ?_
      exact k2 0 (by decide) sx
    | 1, _ =>
      refine AW.conv (pc := 41) ?_ rfl rfl rfl
      refine aw_aload_n dX4_many_41 rfl rfl ?_
      refine aw_getI dX4_many_42 rfl rfl rfl flX4_92 ?_
      refine aw_ret dX4_many_45 rfl rfl ?_
      exact k2 1 (by decide) sx
    | 2, _ =>
      refine AW.conv (pc := 46) ?_ rfl rfl rfl
      refine aw_aload_n dX4_many_46 rfl rfl ?_
      refine aw_getI dX4_many_47 rfl rfl rfl flX4_75 ?_
      refine aw_aload_n dX4_many_50 rfl rfl ?_
      refine aw_bipush (-9) dX4_many_51 rfl (by decide) ?_
      refine aw_V1 (M' := mX4_holders) dX4_many_53 rfl lkX4_98 gX4_holders rfl rfl (Nat.le_of_ble_eq_true rfl) (sX4_holders hn h0 ?_)
      show AW _ mX4_many 56 _ (_ :: _) _ _
      refine aw_isub dX4_many_56 rfl ?_
      refine aw_ret dX4_many_57 rfl rfl ?_
      exact k2 2 (by decide) sx
    | 3, _ =>
      refine AW.conv (pc := 58) ?_ rfl rfl rfl
      refine aw_aload_n dX4_many_58 rfl rfl ?_
      refine aw_getI dX4_many_59 rfl rfl rfl flX4_195 ?_
      refine aw_ret dX4_many_62 rfl rfl ?_
      exact k2 3 (by decide) sx
    | 4, _ =>
      refine AW.conv (pc := 63) ?_ rfl rfl rfl
      refine aw_aload_n dX4_many_63 rfl rfl ?_
      refine aw_V0 (M' := mX4_heldList) dX4_many_64 rfl lkX4_204 gX4_heldList rfl rfl (Nat.le_of_ble_eq_true rfl) (sX4_heldList hn h0 ?_)
      show AW _ mX4_many 67 _ (_ :: _) _ _
      refine aw_ldc dX4_many_67 rfl kcX4_159 ?_
      refine aw_iadd dX4_many_69 rfl ?_
      refine aw_ret dX4_many_70 rfl rfl ?_
      exact k2 4 (by decide) sx
    | j + 5, hj => exact absurd hj (by omega)
  · refine AW.conv (pc := 71) ?_ rfl rfl rfl
    refine aw_bipush (-2) dX4_many_71 rfl (by decide) ?_
    refine aw_ret dX4_many_73 rfl rfl ?_
    exact k1 sx
set_option maxRecDepth 4000 in
theorem sX4_unload {d : Nat} {σ : SS} {K : ax_K} {c : Int32} {n cn : Nat} (hn : n ≤ 6) (h0 : σ 28 0 0 = nI n) (hc : cn ≤ 4) (h9 : σ 28 0 9 = nI cn) (k1 : ¬ ixn c cn → K (some (-1)) σ) (k2 : ixn c cn → cntI n (fun t => σ 35 0 t = c) = 0 → K (some (-3)) σ) (k3 : ∀ a, a < cn → c = nI a → ¬ cntI n (fun t => σ 35 0 t = c) = 0 → K (some (cntI n (fun t => σ 35 0 t = c))) (ulS σ c (σ 37 0 a) n)) : AW (d + 2) mX4_unload 0 (ax_en mX4_unload [.inr (28, 0), .inl c]) [] σ K := by
  show AW _ mX4_unload 0 [_, _, _, _] _ _ _
  refine aw_aload_n dX4_unload_0 rfl rfl ?_
  refine aw_iload_n dX4_unload_1 rfl rfl ?_
  refine aw_V1 (M' := mX4_isCargo) dX4_unload_2 rfl lkX4_102 gX4_isCargo rfl rfl (Nat.le_of_ble_eq_true rfl) (sX4_isCargo hc h9 ?_)
  show AW _ mX4_unload 5 _ (_ :: _) _ _
  refine aw_if_neb (tgt := 10) dX4_unload_5 rfl rfl (fun c5 => ?_) (fun c5 => ?_)
  · skip
    refine aw_aload_n dX4_unload_10 rfl rfl ?_
    refine aw_iload_n dX4_unload_11 rfl rfl ?_
    refine aw_V1 (M' := mX4_holders) dX4_unload_12 rfl lkX4_98 gX4_holders rfl rfl (Nat.le_of_ble_eq_true rfl) (sX4_holders hn h0 ?_)
    show AW _ mX4_unload 15 _ (_ :: _) _ _
    refine aw_istore_n dX4_unload_15 rfl (by decide) ?_
    show AW _ mX4_unload 16 [_, _, _, _] _ _ _
    refine aw_iload_n dX4_unload_16 rfl rfl ?_
    refine aw_if_ne (tgt := 23) dX4_unload_17 rfl rfl (fun c17 => ?_) (fun c17 => ?_)
    · skip
      obtain ⟨a, ha, rfl⟩ := ixn_of c5 (by omega)
      have hca : (nI a).toNatClampNeg = a := nI_clamp (by omega)
      refine aw_iconst 0 dX4_unload_23 rfl (by decide) ?_
      refine aw_istore_n dX4_unload_24 rfl (by decide) ?_
      show AW _ mX4_unload 25 [_, _, _, _] _ _ _
      refine AW.conv (ax_loop (P := fun i => AW (d + 2) mX4_unload 25 [some (.inr (28, 0)), some (.inl (nI a)), some (.inl (cntI n (fun t => σ 35 0 t = nI a))), some (.inl (nI i))] [] (ulS σ (nI a) (σ 37 0 a) i) K) n ?_ ?_ 0 (Nat.zero_le _)) (by first | (simp only [nI_0]; done) | (simp only [nI_0]; rfl)) rfl (by rw [ulS_0])
      · try dsimp only
        refine aw_iload_n dX4_unload_25 rfl rfl ?_
        refine aw_aload_n dX4_unload_26 rfl rfl ?_
        refine aw_getI dX4_unload_27 rfl rfl rfl flX4_75 ?_
        refine aw_icmp_ge (tgt := 54) dX4_unload_30 rfl rfl (fun _ => ?_) (fun z => absurd (by rw [show (ulS σ (nI a) (σ 37 0 a) n) 28 0 0 = σ 28 0 0 from rfl, h0]; exact Int32.le_refl _) z)
        refine aw_iload_n dX4_unload_54 rfl rfl ?_
        refine aw_ret dX4_unload_55 rfl rfl ?_
        exact k3 a ha rfl c17
      · intro i hi_25 nx_25
        try dsimp only at nx_25 ⊢
        have hci : (nI i).toNatClampNeg = i := nI_clamp (by omega)
        have hh35 : (ulS σ (nI a) (σ 37 0 a) i) 35 0 = ulH (σ 35 0) (nI a) (-9) (σ 35 0) i := rfl
        have hl33 : (ulS σ (nI a) (σ 37 0 a) i) 33 0 = ulL (σ 35 0) (nI a) (σ 37 0 a) (σ 33 0) i := rfl
        have h36 : (ulS σ (nI a) (σ 37 0 a) i) 36 0 = ulH (σ 35 0) (nI a) 0 (σ 36 0) i := rfl
        have h37 : (ulS σ (nI a) (σ 37 0 a) i) 37 0 a = σ 37 0 a := rfl
        have hh0 : (ulS σ (nI a) (σ 37 0 a) i) 35 0 i = σ 35 0 i := by rw [hh35, ulH, if_neg (fun z => absurd z.1 (Nat.lt_irrefl i))]
        refine aw_iload_n dX4_unload_25 rfl rfl ?_
        refine aw_aload_n dX4_unload_26 rfl rfl ?_
        refine aw_getI dX4_unload_27 rfl rfl rfl flX4_75 ?_
        refine aw_icmp_ge (tgt := 54) dX4_unload_30 rfl rfl (fun z => absurd z (by rw [show (ulS σ (nI a) (σ 37 0 a) i) 28 0 0 = σ 28 0 0 from rfl, h0]; exact nI_ge hi_25 (by omega))) (fun _ => ?_)
        refine aw_aload_n dX4_unload_33 rfl rfl ?_
        refine aw_getR dX4_unload_34 rfl rfl rfl (by decide) flX4_28 ?_
        refine aw_iload_n dX4_unload_37 rfl rfl ?_
        refine aw_iald dX4_unload_38 rfl rfl (by first | exact vp_in_nI (by omega) (by omega) | decide) ?_
        try simp only [hci]
        try simp only [hh0]
        refine aw_iload_n dX4_unload_39 rfl rfl ?_
        refine aw_icmp_ne (tgt := 48) dX4_unload_40 rfl rfl (fun c40 => ?_) (fun c40 => ?_)
        · skip
          refine aw_iinc dX4_unload_48 rfl rfl (ii_1 _) (by decide) ?_
          show AW _ mX4_unload 51 [_, _, _, _] _ _ _
          refine aw_goto (q := 25) dX4_unload_51 rfl ?_
          first | exact AW.conv nx_25 (by first | (simp only [nI_succ]; done) | (simp only [nI_succ]; rfl)) rfl rfl | exact AW.conv nx_25 (by first | (simp only [nI_succ]; done) | (simp only [nI_succ]; rfl)) rfl (ulS_f c40)
        · skip
          refine aw_aload_n dX4_unload_43 rfl rfl ?_
          refine aw_iload_n dX4_unload_44 rfl rfl ?_
          refine aw_V1 (M' := mX4_empties) dX4_unload_45 rfl lkX4_198 gX4_empties rfl rfl (Nat.le_of_ble_eq_true rfl) (sX4_empties (by omega) (by rw [hh0, c40]; exact vp_in_nI (by omega) (by omega)) ?_)
          rw [hh0, c40, hl33, h36, ci, hca, h37, hh35, ulS_t c40]
          show AW _ mX4_unload 48 _ _ _ _
          refine aw_iinc dX4_unload_48 rfl rfl (ii_1 _) (by decide) ?_
          show AW _ mX4_unload 51 [_, _, _, _] _ _ _
          refine aw_goto (q := 25) dX4_unload_51 rfl ?_
          first | exact AW.conv nx_25 (by first | (simp only [nI_succ]; done) | (simp only [nI_succ]; rfl)) rfl rfl | exact AW.conv nx_25 (by first | (simp only [nI_succ]; done) | (simp only [nI_succ]; rfl)) rfl (ulS_f c40)
    · skip
      refine aw_bipush (-3) dX4_unload_20 rfl (by decide) ?_
      refine aw_ret dX4_unload_22 rfl rfl ?_
      exact k2 c5 c17
  · skip
    refine aw_iconst (-1) dX4_unload_8 rfl (by decide) ?_
    refine aw_ret dX4_unload_9 rfl rfl ?_
    exact k1 c5
set_option maxRecDepth 4000 in
theorem sX4_pour {d : Nat} {σ : SS} {K : ax_K} {i j v : Int32} {n cn : Nat} (hn : n ≤ 6) (h0 : σ 28 0 0 = nI n) (hc : cn ≤ 4) (h9 : σ 28 0 9 = nI cn) (hLat : ∀ x, x < 18 → lt9 (σ 33 0 x)) (hLiq : ∀ c, c < 4 → ∃ j, j < 8 ∧ σ 37 0 c = nI j) (hH : okT n cn (σ 35 0)) (hM : ∀ t, t < n → σ 35 0 t = -9 → σ 36 0 t = 0) (k1 : ¬ (ixn i n ∧ ixn j n ∧ i ≠ j) → K (some (-1)) σ) (k2 : (ixn i n ∧ ixn j n ∧ i ≠ j) → ¬ (1 ≤ v ∧ v ≤ 99) → K (some (-2)) σ) (k3 : ∀ a b, a < n → b < n → a ≠ b → i = nI a → j = nI b → (1 ≤ v ∧ v ≤ 99) → prB σ n a b v = false → K (some (-3)) σ) (k4 : ∀ a b, a < n → b < n → a ≠ b → i = nI a → j = nI b → (1 ≤ v ∧ v ≤ 99) → prB σ n a b v = true → K (some (σ 36 0 b + v)) (prS σ a b v)) : AW (d + 3) mX4_pour 0 (ax_en mX4_pour [.inr (28, 0), .inl i, .inl j, .inl v]) [] σ K := by
  show AW _ mX4_pour 0 [_, _, _, _, _, _] _ _ _
  refine aw_aload_n dX4_pour_0 rfl rfl ?_
  refine aw_iload_n dX4_pour_1 rfl rfl ?_
  refine aw_iload_n dX4_pour_2 rfl rfl ?_
  refine aw_V2 (M' := mX4_areTwo) dX4_pour_3 rfl lkX4_82 gX4_areTwo rfl rfl (Nat.le_of_ble_eq_true rfl) (sX4_areTwo hn h0 ?_)
  show AW _ mX4_pour 6 _ (_ :: _) _ _
  refine aw_if_neb (tgt := 11) dX4_pour_6 rfl rfl (fun c6 => ?_) (fun c6 => ?_)
  · skip
    have c6o := c6
    obtain ⟨hi1, hj1, hij⟩ := c6
    obtain ⟨a, ha, rfl⟩ := ixn_of hi1 (by omega)
    obtain ⟨b, hb, rfl⟩ := ixn_of hj1 (by omega)
    have hab : a ≠ b := fun z => hij (by rw [z])
    have hca : (nI a).toNatClampNeg = a := nI_clamp (by omega)
    have hcb : (nI b).toNatClampNeg = b := nI_clamp (by omega)
    refine aw_iload_n dX4_pour_11 rfl rfl ?_
    refine aw_iconst 1 dX4_pour_12 rfl (by decide) ?_
    refine aw_bipush 99 dX4_pour_13 rfl (by decide) ?_
    refine aw_S3 (M' := mX4_within) dX4_pour_15 rfl lkX4_71 gX4_within (Nat.le_of_ble_eq_true rfl) (sX4_within ?_)
    show AW _ mX4_pour 18 _ (_ :: _) _ _
    refine aw_if_neb (tgt := 24) dX4_pour_18 rfl rfl (fun c18 => ?_) (fun c18 => ?_)
    · skip
      refine aw_aload_n dX4_pour_24 rfl rfl ?_
      refine aw_getR dX4_pour_25 rfl rfl rfl (by decide) flX4_28 ?_
      refine aw_iload_n dX4_pour_28 rfl rfl ?_
      refine aw_iald dX4_pour_29 rfl rfl (by first | exact vp_in_nI (by omega) (by omega) | decide) ?_
      try simp only [hca]
      try simp only [hcb]
      refine aw_istore dX4_pour_30 rfl (by decide) ?_
      show AW _ mX4_pour 32 [_, _, _, _, _, _] _ _ _
      refine aw_aload_n dX4_pour_32 rfl rfl ?_
      refine aw_getR dX4_pour_33 rfl rfl rfl (by decide) flX4_28 ?_
      refine aw_iload_n dX4_pour_36 rfl rfl ?_
      refine aw_iald dX4_pour_37 rfl rfl (by first | exact vp_in_nI (by omega) (by omega) | decide) ?_
      try simp only [hca]
      try simp only [hcb]
      refine aw_bipush (-9) dX4_pour_38 rfl (by decide) ?_
      refine aw_icmp_ne (tgt := 47) dX4_pour_40 rfl rfl (fun c40 => ?_) (fun c40 => ?_)
      · skip
        refine aw_iconst 0 dX4_pour_47 rfl (by decide) ?_
        refine aw_istore dX4_pour_48 rfl (by decide) ?_
        show AW _ mX4_pour 50 [_, _, _, _, _, _] _ _ _
        refine aw_aload_n dX4_pour_50 rfl rfl ?_
        refine aw_getR dX4_pour_51 rfl rfl rfl (by decide) flX4_31 ?_
        refine aw_iload_n dX4_pour_54 rfl rfl ?_
        refine aw_iald dX4_pour_55 rfl rfl (by first | exact vp_in_nI (by omega) (by omega) | decide) ?_
        try simp only [hca]
        try simp only [hcb]
        refine aw_iload_n dX4_pour_56 rfl rfl ?_
        refine aw_icmp_lt (tgt := 106) dX4_pour_57 rfl rfl (fun c57 => ?_) (fun c57 => ?_)
        · skip
          refine aw_bipush (-3) dX4_pour_106 rfl (by decide) ?_
          refine aw_ret dX4_pour_108 rfl rfl ?_
          exact k3 a b ha hb hab rfl rfl c18 (by rw [prB, decide_eq_true c57]; rfl)
        · skip
          refine aw_aload_n dX4_pour_60 rfl rfl ?_
          refine aw_getR dX4_pour_61 rfl rfl rfl (by decide) flX4_7 ?_
          refine aw_iload_n dX4_pour_64 rfl rfl ?_
          refine aw_iald dX4_pour_65 rfl rfl (by first | exact vp_in_nI (by omega) (by omega) | decide) ?_
          try simp only [hca]
          try simp only [hcb]
          refine aw_aload_n dX4_pour_66 rfl rfl ?_
          refine aw_getR dX4_pour_67 rfl rfl rfl (by decide) flX4_31 ?_
          refine aw_iload_n dX4_pour_70 rfl rfl ?_
          refine aw_iald dX4_pour_71 rfl rfl (by first | exact vp_in_nI (by omega) (by omega) | decide) ?_
          try simp only [hca]
          try simp only [hcb]
          refine aw_isub dX4_pour_72 rfl ?_
          refine aw_iload_n dX4_pour_73 rfl rfl ?_
          refine aw_icmp_lt (tgt := 106) dX4_pour_74 rfl rfl (fun c74 => ?_) (fun c74 => ?_)
          · skip
            refine aw_bipush (-3) dX4_pour_106 rfl (by decide) ?_
            refine aw_ret dX4_pour_108 rfl rfl ?_
            exact k3 a b ha hb hab rfl rfl c18 (by rw [prB, decide_eq_true c74]; simp)
          · skip
            have hcv : vp_in (σ 35 0 a) cn := (hH a ha).resolve_left (fun z => absurd (hM a ha z) (fun q => c57 (by rw [q]; exact Int32.lt_of_lt_of_le (by decide) c18.1)))
            refine aw_iload dX4_pour_77 rfl rfl ?_
            refine aw_if_eq (tgt := 95) dX4_pour_79 rfl rfl (fun _ => ?_) (fun z => absurd rfl z)
            refine aw_aload_n dX4_pour_95 rfl rfl ?_
            refine aw_getR dX4_pour_96 rfl rfl rfl (by decide) flX4_28 ?_
            refine aw_iload_n dX4_pour_99 rfl rfl ?_
            refine aw_iald dX4_pour_100 rfl rfl (by first | exact vp_in_nI (by omega) (by omega) | decide) ?_
            try simp only [hca]
            try simp only [hcb]
            refine aw_iload dX4_pour_101 rfl rfl ?_
            refine aw_icmp_eq (tgt := 109) dX4_pour_103 rfl rfl (fun c103 => ?_) (fun c103 => ?_)
            · skip
              refine aw_aload_n dX4_pour_109 rfl rfl ?_
              refine aw_dup dX4_pour_110 rfl ?_
              refine aw_getI dX4_pour_111 rfl rfl rfl flX4_195 ?_
              refine aw_iload dX4_pour_114 rfl rfl ?_
              refine aw_if_eq (tgt := 129) dX4_pour_116 rfl rfl (fun _ => ?_) (fun z => absurd rfl z)
              refine aw_iconst 0 dX4_pour_129 rfl (by decide) ?_
              refine aw_iadd dX4_pour_130 rfl ?_
              refine aw_putI dX4_pour_131 rfl rfl rfl flX4_195 (pf_4_25 _) ?_
              refine aw_aload_n dX4_pour_134 rfl rfl ?_
              refine aw_getR dX4_pour_135 rfl rfl rfl (by decide) flX4_28 ?_
              refine aw_iload_n dX4_pour_138 rfl rfl ?_
              refine aw_iload dX4_pour_139 rfl rfl ?_
              refine aw_iast dX4_pour_141 rfl rfl (by first | exact vp_in_nI (by omega) (by omega) | decide) ?_
              try simp only [hca]
              try simp only [hcb]
              refine aw_aload_n dX4_pour_142 rfl rfl ?_
              refine aw_getR dX4_pour_143 rfl rfl rfl (by decide) flX4_31 ?_
              refine aw_iload_n dX4_pour_146 rfl rfl ?_
              refine aw_dup2 dX4_pour_147 rfl ?_
              refine aw_iald dX4_pour_148 rfl rfl (by first | exact vp_in_nI (by omega) (by omega) | decide) ?_
              try simp only [hca]
              try simp only [hcb]
              refine aw_iload_n dX4_pour_149 rfl rfl ?_
              refine aw_iadd dX4_pour_150 rfl ?_
              refine aw_iast dX4_pour_151 rfl rfl (by first | exact vp_in_nI (by omega) (by omega) | decide) ?_
              try simp only [hca]
              try simp only [hcb]
              refine aw_aload_n dX4_pour_152 rfl rfl ?_
              refine aw_getR dX4_pour_153 rfl rfl rfl (by decide) flX4_31 ?_
              refine aw_iload_n dX4_pour_156 rfl rfl ?_
              refine aw_dup2 dX4_pour_157 rfl ?_
              refine aw_iald dX4_pour_158 rfl rfl (by first | exact vp_in_nI (by omega) (by omega) | decide) ?_
              try simp only [hca]
              try simp only [hcb]
              refine aw_iload_n dX4_pour_159 rfl rfl ?_
              refine aw_isub dX4_pour_160 rfl ?_
              refine aw_iast dX4_pour_161 rfl rfl (by first | exact vp_in_nI (by omega) (by omega) | decide) ?_
              try simp only [hca]
              try simp only [hcb]
              simp only [rp_nk, rp_at, rp_rp, pk_us, ne_eq, Nat.reduceEqDiff, not_false_eq_true, hca, hcb, pk_un (Ne.symm hab), pk_un hab]
              refine aw_aload_n dX4_pour_162 rfl rfl ?_
              refine aw_getR dX4_pour_163 rfl rfl rfl (by decide) flX4_31 ?_
              refine aw_iload_n dX4_pour_166 rfl rfl ?_
              refine aw_iald dX4_pour_167 rfl rfl (by first | exact vp_in_nI (by omega) (by omega) | decide) ?_
              try simp only [hca]
              try simp only [hcb]
              simp only [rp_nk, rp_at, rp_rp, pk_us, ne_eq, Nat.reduceEqDiff, not_false_eq_true, hca, hcb, pk_un (Ne.symm hab), pk_un hab]
              refine aw_if_ne (tgt := 176) dX4_pour_168 rfl rfl (fun c168 => ?_) (fun c168 => ?_)
              · skip
                refine aw_aload_n dX4_pour_176 rfl rfl ?_
                refine aw_getR dX4_pour_177 rfl rfl rfl (by decide) flX4_31 ?_
                refine aw_iload_n dX4_pour_180 rfl rfl ?_
                refine aw_iald dX4_pour_181 rfl rfl (by first | exact vp_in_nI (by omega) (by omega) | decide) ?_
                try simp only [hca]
                try simp only [hcb]
                refine aw_ret dX4_pour_182 rfl rfl ?_
                refine kk_c (k4 a b ha hb hab rfl rfl c18 (by rw [prB, decide_eq_false c57, decide_eq_false c74, if_neg c40, decide_eq_true c103]; rfl)) ?_ ?_
                · simp only [rp_nk, rp_at, rp_rp, pk_us, ne_eq, Nat.reduceEqDiff, not_false_eq_true, hca, hcb, pk_un (Ne.symm hab), pk_un hab]
                · simp only [prS, if_neg c40, if_neg c168]
                  try simp only [rp_nk, rp_at, rp_rp, pk_us, ne_eq, Nat.reduceEqDiff, not_false_eq_true, hca, hcb, pk_un (Ne.symm hab), pk_un hab]
              · skip
                refine aw_aload_n dX4_pour_171 rfl rfl ?_
                refine aw_iload_n dX4_pour_172 rfl rfl ?_
                refine aw_V1 (M' := mX4_empties) dX4_pour_173 rfl lkX4_198 gX4_empties rfl rfl (Nat.le_of_ble_eq_true rfl) (sX4_empties (by omega) (by simp only [rp_nk, rp_at, ne_eq, Nat.reduceEqDiff, not_false_eq_true, pk_un hab]; exact vp_mono hcv hc) ?_)
                show AW _ mX4_pour 176 _ _ _ _
                refine aw_aload_n dX4_pour_176 rfl rfl ?_
                refine aw_getR dX4_pour_177 rfl rfl rfl (by decide) flX4_31 ?_
                refine aw_iload_n dX4_pour_180 rfl rfl ?_
                refine aw_iald dX4_pour_181 rfl rfl (by first | exact vp_in_nI (by omega) (by omega) | decide) ?_
                try simp only [hca]
                try simp only [hcb]
                refine aw_ret dX4_pour_182 rfl rfl ?_
                refine kk_c (k4 a b ha hb hab rfl rfl c18 (by rw [prB, decide_eq_false c57, decide_eq_false c74, if_neg c40, decide_eq_true c103]; rfl)) ?_ ?_
                · simp only [rp_nk, rp_at, rp_rp, pk_us, ne_eq, Nat.reduceEqDiff, not_false_eq_true, hca, hcb, pk_un (Ne.symm hab), pk_un hab]
                · simp only [prS, if_neg c40, if_pos c168]
                  try simp only [rp_nk, rp_at, rp_rp, pk_us, ne_eq, Nat.reduceEqDiff, not_false_eq_true, hca, hcb, pk_un (Ne.symm hab), pk_un hab]
            · skip
              refine aw_bipush (-3) dX4_pour_106 rfl (by decide) ?_
              refine aw_ret dX4_pour_108 rfl rfl ?_
              exact k3 a b ha hb hab rfl rfl c18 (by rw [prB, if_neg c40, decide_eq_false c103]; simp)
      · skip
        refine aw_iconst 1 dX4_pour_43 rfl (by decide) ?_
        refine aw_goto (q := 48) dX4_pour_44 rfl ?_
        refine aw_istore dX4_pour_48 rfl (by decide) ?_
        show AW _ mX4_pour 50 [_, _, _, _, _, _] _ _ _
        refine aw_aload_n dX4_pour_50 rfl rfl ?_
        refine aw_getR dX4_pour_51 rfl rfl rfl (by decide) flX4_31 ?_
        refine aw_iload_n dX4_pour_54 rfl rfl ?_
        refine aw_iald dX4_pour_55 rfl rfl (by first | exact vp_in_nI (by omega) (by omega) | decide) ?_
        try simp only [hca]
        try simp only [hcb]
        refine aw_iload_n dX4_pour_56 rfl rfl ?_
        refine aw_icmp_lt (tgt := 106) dX4_pour_57 rfl rfl (fun c57 => ?_) (fun c57 => ?_)
        · skip
          refine aw_bipush (-3) dX4_pour_106 rfl (by decide) ?_
          refine aw_ret dX4_pour_108 rfl rfl ?_
          exact k3 a b ha hb hab rfl rfl c18 (by rw [prB, decide_eq_true c57]; rfl)
        · skip
          refine aw_aload_n dX4_pour_60 rfl rfl ?_
          refine aw_getR dX4_pour_61 rfl rfl rfl (by decide) flX4_7 ?_
          refine aw_iload_n dX4_pour_64 rfl rfl ?_
          refine aw_iald dX4_pour_65 rfl rfl (by first | exact vp_in_nI (by omega) (by omega) | decide) ?_
          try simp only [hca]
          try simp only [hcb]
          refine aw_aload_n dX4_pour_66 rfl rfl ?_
          refine aw_getR dX4_pour_67 rfl rfl rfl (by decide) flX4_31 ?_
          refine aw_iload_n dX4_pour_70 rfl rfl ?_
          refine aw_iald dX4_pour_71 rfl rfl (by first | exact vp_in_nI (by omega) (by omega) | decide) ?_
          try simp only [hca]
          try simp only [hcb]
          refine aw_isub dX4_pour_72 rfl ?_
          refine aw_iload_n dX4_pour_73 rfl rfl ?_
          refine aw_icmp_lt (tgt := 106) dX4_pour_74 rfl rfl (fun c74 => ?_) (fun c74 => ?_)
          · skip
            refine aw_bipush (-3) dX4_pour_106 rfl (by decide) ?_
            refine aw_ret dX4_pour_108 rfl rfl ?_
            exact k3 a b ha hb hab rfl rfl c18 (by rw [prB, decide_eq_true c74]; simp)
          · skip
            have hcv : vp_in (σ 35 0 a) cn := (hH a ha).resolve_left (fun z => absurd (hM a ha z) (fun q => c57 (by rw [q]; exact Int32.lt_of_lt_of_le (by decide) c18.1)))
            refine aw_iload dX4_pour_77 rfl rfl ?_
            refine aw_if_eq (tgt := 95) dX4_pour_79 rfl rfl (fun z => absurd z (by decide)) (fun _ => ?_)
            refine aw_aload_n dX4_pour_82 rfl rfl ?_
            refine aw_iload_n dX4_pour_83 rfl rfl ?_
            refine aw_iload dX4_pour_84 rfl rfl ?_
            refine aw_V2 (M' := mX4_mayTake) dX4_pour_86 rfl lkX4_201 gX4_mayTake rfl rfl (Nat.le_of_ble_eq_true rfl) (sX4_mayTake hn h0 hc hb (vp_mono hcv hc) hH ?_)
            show AW _ mX4_pour 89 _ (_ :: _) _ _
            refine aw_if_neB (tgt := 109) dX4_pour_89 rfl rfl (fun c89 => ?_) (fun c89 => ?_)
            · skip
              refine aw_aload_n dX4_pour_109 rfl rfl ?_
              refine aw_dup dX4_pour_110 rfl ?_
              refine aw_getI dX4_pour_111 rfl rfl rfl flX4_195 ?_
              refine aw_iload dX4_pour_114 rfl rfl ?_
              refine aw_if_eq (tgt := 129) dX4_pour_116 rfl rfl (fun z => absurd z (by decide)) (fun _ => ?_)
              refine aw_aload_n dX4_pour_119 rfl rfl ?_
              refine aw_iload_n dX4_pour_120 rfl rfl ?_
              refine aw_iload dX4_pour_121 rfl rfl ?_
              refine aw_V2 (M' := mX4_washesFor) dX4_pour_123 rfl lkX4_118 gX4_washesFor rfl rfl (Nat.le_of_ble_eq_true rfl) (sX4_washesForI (vp_in_nI (by omega) (by omega)) (vp_mono hcv hc) (hLat _ (by rw [ci, hcb]; omega)) (hLiq _ (vp_lt (vp_mono hcv hc))) ?_)
              rw [ci, hcb]
              show AW _ mX4_pour 126 _ (_ :: _) _ _
              refine aw_goto (q := 130) dX4_pour_126 rfl ?_
              refine aw_iadd dX4_pour_130 rfl ?_
              refine aw_putI dX4_pour_131 rfl rfl rfl flX4_195 (pf_4_25 _) ?_
              refine aw_aload_n dX4_pour_134 rfl rfl ?_
              refine aw_getR dX4_pour_135 rfl rfl rfl (by decide) flX4_28 ?_
              refine aw_iload_n dX4_pour_138 rfl rfl ?_
              refine aw_iload dX4_pour_139 rfl rfl ?_
              refine aw_iast dX4_pour_141 rfl rfl (by first | exact vp_in_nI (by omega) (by omega) | decide) ?_
              try simp only [hca]
              try simp only [hcb]
              refine aw_aload_n dX4_pour_142 rfl rfl ?_
              refine aw_getR dX4_pour_143 rfl rfl rfl (by decide) flX4_31 ?_
              refine aw_iload_n dX4_pour_146 rfl rfl ?_
              refine aw_dup2 dX4_pour_147 rfl ?_
              refine aw_iald dX4_pour_148 rfl rfl (by first | exact vp_in_nI (by omega) (by omega) | decide) ?_
              try simp only [hca]
              try simp only [hcb]
              refine aw_iload_n dX4_pour_149 rfl rfl ?_
              refine aw_iadd dX4_pour_150 rfl ?_
              refine aw_iast dX4_pour_151 rfl rfl (by first | exact vp_in_nI (by omega) (by omega) | decide) ?_
              try simp only [hca]
              try simp only [hcb]
              refine aw_aload_n dX4_pour_152 rfl rfl ?_
              refine aw_getR dX4_pour_153 rfl rfl rfl (by decide) flX4_31 ?_
              refine aw_iload_n dX4_pour_156 rfl rfl ?_
              refine aw_dup2 dX4_pour_157 rfl ?_
              refine aw_iald dX4_pour_158 rfl rfl (by first | exact vp_in_nI (by omega) (by omega) | decide) ?_
              try simp only [hca]
              try simp only [hcb]
              refine aw_iload_n dX4_pour_159 rfl rfl ?_
              refine aw_isub dX4_pour_160 rfl ?_
              refine aw_iast dX4_pour_161 rfl rfl (by first | exact vp_in_nI (by omega) (by omega) | decide) ?_
              try simp only [hca]
              try simp only [hcb]
              simp only [rp_nk, rp_at, rp_rp, pk_us, ne_eq, Nat.reduceEqDiff, not_false_eq_true, hca, hcb, pk_un (Ne.symm hab), pk_un hab]
              refine aw_aload_n dX4_pour_162 rfl rfl ?_
              refine aw_getR dX4_pour_163 rfl rfl rfl (by decide) flX4_31 ?_
              refine aw_iload_n dX4_pour_166 rfl rfl ?_
              refine aw_iald dX4_pour_167 rfl rfl (by first | exact vp_in_nI (by omega) (by omega) | decide) ?_
              try simp only [hca]
              try simp only [hcb]
              simp only [rp_nk, rp_at, rp_rp, pk_us, ne_eq, Nat.reduceEqDiff, not_false_eq_true, hca, hcb, pk_un (Ne.symm hab), pk_un hab]
              refine aw_if_ne (tgt := 176) dX4_pour_168 rfl rfl (fun c168 => ?_) (fun c168 => ?_)
              · skip
                refine aw_aload_n dX4_pour_176 rfl rfl ?_
                refine aw_getR dX4_pour_177 rfl rfl rfl (by decide) flX4_31 ?_
                refine aw_iload_n dX4_pour_180 rfl rfl ?_
                refine aw_iald dX4_pour_181 rfl rfl (by first | exact vp_in_nI (by omega) (by omega) | decide) ?_
                try simp only [hca]
                try simp only [hcb]
                refine aw_ret dX4_pour_182 rfl rfl ?_
                refine kk_c (k4 a b ha hb hab rfl rfl c18 (by rw [prB, decide_eq_false c57, decide_eq_false c74, if_pos c40, c89]; rfl)) ?_ ?_
                · simp only [rp_nk, rp_at, rp_rp, pk_us, ne_eq, Nat.reduceEqDiff, not_false_eq_true, hca, hcb, pk_un (Ne.symm hab), pk_un hab]
                · simp only [prS, if_pos c40, if_neg c168]
                  try simp only [rp_nk, rp_at, rp_rp, pk_us, ne_eq, Nat.reduceEqDiff, not_false_eq_true, hca, hcb, pk_un (Ne.symm hab), pk_un hab]
              · skip
                refine aw_aload_n dX4_pour_171 rfl rfl ?_
                refine aw_iload_n dX4_pour_172 rfl rfl ?_
                refine aw_V1 (M' := mX4_empties) dX4_pour_173 rfl lkX4_198 gX4_empties rfl rfl (Nat.le_of_ble_eq_true rfl) (sX4_empties (by omega) (by simp only [rp_nk, rp_at, ne_eq, Nat.reduceEqDiff, not_false_eq_true, pk_un hab]; exact vp_mono hcv hc) ?_)
                show AW _ mX4_pour 176 _ _ _ _
                refine aw_aload_n dX4_pour_176 rfl rfl ?_
                refine aw_getR dX4_pour_177 rfl rfl rfl (by decide) flX4_31 ?_
                refine aw_iload_n dX4_pour_180 rfl rfl ?_
                refine aw_iald dX4_pour_181 rfl rfl (by first | exact vp_in_nI (by omega) (by omega) | decide) ?_
                try simp only [hca]
                try simp only [hcb]
                refine aw_ret dX4_pour_182 rfl rfl ?_
                refine kk_c (k4 a b ha hb hab rfl rfl c18 (by rw [prB, decide_eq_false c57, decide_eq_false c74, if_pos c40, c89]; rfl)) ?_ ?_
                · simp only [rp_nk, rp_at, rp_rp, pk_us, ne_eq, Nat.reduceEqDiff, not_false_eq_true, hca, hcb, pk_un (Ne.symm hab), pk_un hab]
                · simp only [prS, if_pos c40, if_pos c168]
                  try simp only [rp_nk, rp_at, rp_rp, pk_us, ne_eq, Nat.reduceEqDiff, not_false_eq_true, hca, hcb, pk_un (Ne.symm hab), pk_un hab]
            · skip
              refine aw_goto (q := 106) dX4_pour_92 rfl ?_
              refine aw_bipush (-3) dX4_pour_106 rfl (by decide) ?_
              refine aw_ret dX4_pour_108 rfl rfl ?_
              exact k3 a b ha hb hab rfl rfl c18 (by rw [prB, if_pos c40, c89]; simp)
    · skip
      refine aw_bipush (-2) dX4_pour_21 rfl (by decide) ?_
      refine aw_ret dX4_pour_23 rfl rfl ?_
      exact k2 c6o c18
  · skip
    refine aw_iconst (-1) dX4_pour_9 rfl (by decide) ?_
    refine aw_ret dX4_pour_10 rfl rfl ?_
    exact k1 c6
end
section
set_option maxRecDepth 4000 in
theorem sX4_taken {d : Nat} {σ : SS} {K : ax_K} {n cn : Nat} (hn : n ≤ 6) (h0 : σ 28 0 0 = nI n) (hc : cn ≤ 4) (h9 : σ 28 0 9 = nI cn) (hLat : ∀ x, x < 18 → lt9 (σ 33 0 x)) (hLiq : ∀ c, c < 4 → ∃ j, j < 8 ∧ σ 37 0 c = nI j) (hK : ∀ (x y z : Int32) (f g b c : Nat → Int32), K (some (nI (tkS σ n cn (2 ^ cn - 1)))) (mS σ x y z f g b c)) : AW (d + 5) mX4_taken 0 (ax_en mX4_taken [.inr (28, 0)]) [] σ K := by
  have h0s : ∀ x y z f g b c, (mS σ x y z f g b c) 28 0 0 = nI n := fun x y z f g b c => (mS_r28j (by decide)).trans h0
  have h9s : ∀ x y z f g b c, (mS σ x y z f g b c) 28 0 9 = nI cn := fun x y z f g b c => (mS_r28j (by decide)).trans h9
  have hp2 : 2 ^ cn ≤ 16 := Nat.le_trans (Nat.pow_le_pow_right (by decide) hc) (by decide)
  have hp1 : 1 ≤ 2 ^ cn := Nat.one_le_two_pow
  show AW _ mX4_taken 0 [_, _, _] _ _ _
  refine aw_iconst 0 dX4_taken_0 rfl (by decide) ?_
  refine aw_istore_n dX4_taken_1 rfl (by decide) ?_
  show AW _ mX4_taken 2 [_, _, _] _ _ _
  refine aw_iconst 1 dX4_taken_2 rfl (by decide) ?_
  refine aw_istore_n dX4_taken_3 rfl (by decide) ?_
  show AW _ mX4_taken 4 [_, _, _] _ _ _
  refine AW.conv (ax_loop (P := fun i => ∀ (x y z : Int32) (f g b c : Nat → Int32), AW (d + 5) mX4_taken 4 [some (.inr (28, 0)), some (.inl (nI (tkS σ n cn i))), some (.inl (nI (i + 1)))] [] (mS σ x y z f g b c) K) (2 ^ cn - 1) ?_ ?_ 0 (Nat.zero_le _) (σ 28 0 20) (σ 28 0 21) (σ 28 0 22) (σ 44 0) (σ 45 0) (σ 46 0) (σ 47 0)) (by simp only [Nat.zero_add]; rfl) rfl (by rw [mS_self])
  · try dsimp only
    intro x y z f g b c
    refine aw_iload_n dX4_taken_4 rfl rfl ?_
    refine aw_iconst 1 dX4_taken_5 rfl (by decide) ?_
    refine aw_aload_n dX4_taken_6 rfl rfl ?_
    refine aw_getI dX4_taken_7 rfl rfl rfl flX4_92 ?_
    refine aw_ishl dX4_taken_10 rfl ?_
    refine aw_icmp_ge (tgt := 47) dX4_taken_11 rfl rfl (fun _ => ?_) (fun z => absurd (by rw [h9s, shl1 hc, Nat.sub_add_cancel hp1]; exact Int32.le_refl _) z)
    refine aw_iload_n dX4_taken_47 rfl rfl ?_
    refine aw_ret dX4_taken_48 rfl rfl ?_
    exact hK _ _ _ _ _ _ _
  · intro i hi_4 nx_4
    try dsimp only at nx_4 ⊢
    intro x y z f g b c
    have hle := tkS_le σ n cn i
    refine aw_iload_n dX4_taken_4 rfl rfl ?_
    refine aw_iconst 1 dX4_taken_5 rfl (by decide) ?_
    refine aw_aload_n dX4_taken_6 rfl rfl ?_
    refine aw_getI dX4_taken_7 rfl rfl rfl flX4_92 ?_
    refine aw_ishl dX4_taken_10 rfl ?_
    refine aw_icmp_ge (tgt := 47) dX4_taken_11 rfl rfl (fun z => absurd z (by rw [h9s, shl1 hc]; exact nI_ge (by omega) (by omega))) (fun _ => ?_)
    refine aw_aload_n dX4_taken_14 rfl rfl ?_
    refine aw_iload_n dX4_taken_15 rfl rfl ?_
    refine aw_iload_n dX4_taken_16 rfl rfl ?_
    refine aw_V2 (M' := mX4_isBetter) dX4_taken_17 rfl lkX4_189 gX4_isBetter rfl rfl (Nat.le_of_ble_eq_true rfl) (sX4_isBetter hc (h9s _ _ _ _ _ _ _) (by omega) (by omega) ?_)
    rw [btB_mS]
    show AW _ mX4_taken 20 _ (_ :: _) _ _
    refine aw_if_eqB (tgt := 41) dX4_taken_20 rfl rfl (fun c20 => ?_) (fun c20 => ?_)
    · skip
      refine aw_iinc dX4_taken_41 rfl rfl (ii_1 _) (by decide) ?_
      show AW _ mX4_taken 44 [_, _, _] _ _ _
      refine aw_goto (q := 4) dX4_taken_44 rfl ?_
      exact AW.conv (nx_4 _ _ _ _ _ _ _) (by rw [nI_succ (i + 1), tkS_s, if_neg (fun z => absurd z.1 (by rw [c20]; decide))]) rfl rfl
    · skip
      refine aw_aload_n dX4_taken_23 rfl rfl ?_
      refine aw_iload_n dX4_taken_24 rfl rfl ?_
      refine aw_V1 (M' := mX4_findBest) dX4_taken_25 rfl lkX4_176 gX4_findBest rfl rfl (Nat.le_of_ble_eq_true rfl) (sX4_findBest hn (h0s _ _ _ _ _ _ _) hc (h9s _ _ _ _ _ _ _) (by omega) hLat hLiq (fun f2 g2 => ?_))
      rw [mS_mS]
      simp only [fbS_mS]
      show AW _ mX4_taken 28 _ _ _ _
      refine aw_aload_n dX4_taken_28 rfl rfl ?_
      refine aw_getI dX4_taken_29 rfl rfl rfl flX4_160 ?_
      rw [show ∀ (x y z : Int32) (f g b c : Nat → Int32), (mS σ x y z f g b c) 28 0 20 = x from fun _ _ _ _ _ _ _ => rfl, fbS_1]
      refine aw_if_le (tgt := 39) dX4_taken_32 rfl rfl (fun c32 => ?_) (fun c32 => ?_)
      · skip
        refine aw_iload_n dX4_taken_39 rfl rfl ?_
        refine aw_istore_n dX4_taken_40 rfl (by decide) ?_
        show AW _ mX4_taken 41 [_, _, _] _ _ _
        refine aw_iinc dX4_taken_41 rfl rfl (ii_1 _) (by decide) ?_
        show AW _ mX4_taken 44 [_, _, _] _ _ _
        refine aw_goto (q := 4) dX4_taken_44 rfl ?_
        exact AW.conv (nx_4 _ _ _ _ _ _ _) (by rw [nI_succ (i + 1), tkS_s, if_neg (fun z => absurd c32 (Int32.not_le.mpr z.2))]) rfl rfl
      · skip
        refine aw_iload_n dX4_taken_35 rfl rfl ?_
        refine aw_goto (q := 40) dX4_taken_36 rfl ?_
        refine aw_istore_n dX4_taken_40 rfl (by decide) ?_
        show AW _ mX4_taken 41 [_, _, _] _ _ _
        refine aw_iinc dX4_taken_41 rfl rfl (ii_1 _) (by decide) ?_
        show AW _ mX4_taken 44 [_, _, _] _ _ _
        refine aw_goto (q := 4) dX4_taken_44 rfl ?_
        exact AW.conv (nx_4 _ _ _ _ _ _ _) (by rw [nI_succ (i + 1), tkS_s, if_pos ⟨c20, Int32.not_le.mp c32⟩]) rfl rfl
end
section
set_option maxRecDepth 4000 in
theorem sX4_load_68 {d : Nat} {σ : SS} {K : ax_K} {n cn : Nat} (hn : n ≤ 6) (h0 : σ 28 0 0 = nI n) {x y z : Int32} {f g b c : Nat → Int32} {e s : Int32} (hg : ∀ t, t < n → g t = fl (σ 29 0) (σ 38 0) b cn t) (hK : K (some y) (mS (ldS σ n cn b y) x y z f g b c)) : AW d mX4_load 68 [some (.inr (28, 0)), some (.inl e), some (.inl s), none] [] (mS σ x y z f g b c) K := by
  show AW _ mX4_load 68 [_, _, _, _] _ _ _
  refine aw_iconst 0 dX4_load_68 rfl (by decide) ?_
  refine aw_istore_n dX4_load_69 rfl (by decide) ?_
  show AW _ mX4_load 70 [_, _, _, _] _ _ _
  refine AW.conv (ax_loop (P := fun i => AW d mX4_load 70 [some (.inr (28, 0)), some (.inl e), some (.inl s), some (.inl (nI i))] [] (rp (rp (mS σ x y z f g b c) 35 0 (fun t => if t < i then b t else σ 35 0 t)) 36 0 (fun t => if t < i then fl (σ 29 0) (σ 38 0) b cn t else σ 36 0 t)) K) n ?_ ?_ 0 (Nat.zero_le _)) (by first | (simp only [nI_0]; done) | (simp only [nI_0]; rfl)) rfl (by rw [up_0, up_0, show σ 35 0 = (mS σ x y z f g b c) 35 0 from rfl, rp_self, show σ 36 0 = (mS σ x y z f g b c) 36 0 from rfl, rp_self])
  · try dsimp only
    refine aw_iload_n dX4_load_70 rfl rfl ?_
    refine aw_aload_n dX4_load_71 rfl rfl ?_
    refine aw_getI dX4_load_72 rfl rfl rfl flX4_75 ?_
    refine aw_icmp_ge (tgt := 108) dX4_load_75 rfl rfl (fun _ => ?_) (fun z => absurd (by rw [rp_nk (by decide), rp_nk (by decide), mS_r28j (by decide), h0]; exact Int32.le_refl _) z)
    refine aw_aload_n dX4_load_108 rfl rfl ?_
    refine aw_dup dX4_load_109 rfl ?_
    refine aw_getI dX4_load_110 rfl rfl rfl flX4_195 ?_
    refine aw_aload_n dX4_load_113 rfl rfl ?_
    refine aw_getI dX4_load_114 rfl rfl rfl flX4_170 ?_
    refine aw_iadd dX4_load_117 rfl ?_
    refine aw_putI dX4_load_118 rfl rfl rfl flX4_195 (pf_4_25 _) ?_
    refine aw_aload_n dX4_load_121 rfl rfl ?_
    refine aw_getI dX4_load_122 rfl rfl rfl flX4_170 ?_
    refine aw_ret dX4_load_125 rfl rfl ?_
    refine kk_c hK ?_ ?_
    · simp only [rp_at]
      rfl
    · rw [← ldS_eq]
      simp only [rp_nk, ne_eq, Nat.reduceEqDiff, not_false_eq_true]
      rfl
  · intro i hi_70 nx_70
    try dsimp only at nx_70 ⊢
    have hci : (nI i).toNatClampNeg = i := nI_clamp (by omega)
    refine aw_iload_n dX4_load_70 rfl rfl ?_
    refine aw_aload_n dX4_load_71 rfl rfl ?_
    refine aw_getI dX4_load_72 rfl rfl rfl flX4_75 ?_
    refine aw_icmp_ge (tgt := 108) dX4_load_75 rfl rfl (fun z => absurd z (by rw [rp_nk (by decide), rp_nk (by decide), mS_r28j (by decide), h0]; exact nI_ge hi_70 (by omega))) (fun _ => ?_)
    refine aw_aload_n dX4_load_78 rfl rfl ?_
    refine aw_getR dX4_load_79 rfl rfl rfl (by decide) flX4_28 ?_
    refine aw_iload_n dX4_load_82 rfl rfl ?_
    refine aw_aload_n dX4_load_83 rfl rfl ?_
    refine aw_getR dX4_load_84 rfl rfl rfl (by decide) flX4_65 ?_
    refine aw_iload_n dX4_load_87 rfl rfl ?_
    refine aw_iald dX4_load_88 rfl rfl (by first | exact vp_in_nI (by omega) (by omega) | decide) ?_
    refine aw_iast dX4_load_89 rfl rfl (by first | exact vp_in_nI (by omega) (by omega) | decide) ?_
    refine aw_aload_n dX4_load_90 rfl rfl ?_
    refine aw_getR dX4_load_91 rfl rfl rfl (by decide) flX4_31 ?_
    refine aw_iload_n dX4_load_94 rfl rfl ?_
    refine aw_aload_n dX4_load_95 rfl rfl ?_
    refine aw_getR dX4_load_96 rfl rfl rfl (by decide) flX4_62 ?_
    refine aw_iload_n dX4_load_99 rfl rfl ?_
    refine aw_iald dX4_load_100 rfl rfl (by first | exact vp_in_nI (by omega) (by omega) | decide) ?_
    refine aw_iast dX4_load_101 rfl rfl (by first | exact vp_in_nI (by omega) (by omega) | decide) ?_
    refine aw_iinc dX4_load_102 rfl rfl (ii_1 _) (by decide) ?_
    show AW _ mX4_load 105 [_, _, _, _] _ _ _
    refine aw_goto (q := 70) dX4_load_105 rfl ?_
    refine AW.conv nx_70 (by first | (simp only [nI_succ]; done) | (simp only [nI_succ]; rfl)) rfl ?_
    simp only [rp_nk, rp_at, rp_rp, pk_us, ne_eq, Nat.reduceEqDiff, not_false_eq_true, hci, mS_r46, mS_r45]
    rw [rp_c36, rp_rp, up_lt, hg i hi_70]
    exact congrArg (rp _ 36 0) (up_lt (fun t => fl (σ 29 0) (σ 38 0) b cn t) (σ 36 0) i)
set_option maxRecDepth 4000 in
theorem sX4_load {d : Nat} {σ : SS} {K : ax_K} {n cn : Nat} (hn : n ≤ 6) (h0 : σ 28 0 0 = nI n) (hc : cn ≤ 4) (h9 : σ 28 0 9 = nI cn) (hLat : ∀ x, x < 18 → lt9 (σ 33 0 x)) (hLiq : ∀ c, c < 4 → ∃ j, j < 8 ∧ σ 37 0 c = nI j) (k1 : anyB n (hB (σ 35 0)) = true → K (some (-3)) σ) (k2 : anyB n (hB (σ 35 0)) = false → tkS σ n cn (2 ^ cn - 1) = 0 → ∀ (x y z : Int32) (f g b c : Nat → Int32), K (some (-3)) (mS σ x y z f g b c)) (k3 : anyB n (hB (σ 35 0)) = false → ¬ tkS σ n cn (2 ^ cn - 1) = 0 → ∀ (y0 z0 : Int32) (b0 : Nat → Int32), ∀ (x y z : Int32) (f g b c : Nat → Int32), K (some (fbS σ n cn (tkS σ n cn (2 ^ cn - 1)) (mC (tkS σ n cn (2 ^ cn - 1)) cn ^ n) (0, y0, z0, b0)).2.1) (mS (ldS σ n cn (fbS σ n cn (tkS σ n cn (2 ^ cn - 1)) (mC (tkS σ n cn (2 ^ cn - 1)) cn ^ n) (0, y0, z0, b0)).2.2.2 (fbS σ n cn (tkS σ n cn (2 ^ cn - 1)) (mC (tkS σ n cn (2 ^ cn - 1)) cn ^ n) (0, y0, z0, b0)).2.1) x y z f g b c)) : AW (d + 6) mX4_load 0 (ax_en mX4_load [.inr (28, 0)]) [] σ K := by
  have h0s : ∀ x y z f g b c, (mS σ x y z f g b c) 28 0 0 = nI n := fun x y z f g b c => (mS_r28j (by decide)).trans h0
  have h9s : ∀ x y z f g b c, (mS σ x y z f g b c) 28 0 9 = nI cn := fun x y z f g b c => (mS_r28j (by decide)).trans h9
  have hp2 : 2 ^ cn ≤ 16 := Nat.le_trans (Nat.pow_le_pow_right (by decide) hc) (by decide)
  have hle := tkS_le σ n cn (2 ^ cn - 1)
  have hp1 : 1 ≤ 2 ^ cn := Nat.one_le_two_pow
  show AW _ mX4_load 0 [_, _, _, _] _ _ _
  refine aw_iconst 1 dX4_load_0 rfl (by decide) ?_
  refine aw_istore_n dX4_load_1 rfl (by decide) ?_
  show AW _ mX4_load 2 [_, _, _, _] _ _ _
  refine aw_iconst 0 dX4_load_2 rfl (by decide) ?_
  refine aw_istore_n dX4_load_3 rfl (by decide) ?_
  show AW _ mX4_load 4 [_, _, _, _] _ _ _
  refine AW.conv (ax_loop (P := fun i => AW (d + 6) mX4_load 4 [some (.inr (28, 0)), some (.inl (bB (!anyB i (hB (σ 35 0))))), some (.inl (nI i)), none] [] σ K) n ?_ ?_ 0 (Nat.zero_le _)) (by rw [nI_0, anyB_0]; rfl) rfl rfl
  · try dsimp only
    refine aw_iload_n dX4_load_4 rfl rfl ?_
    refine aw_aload_n dX4_load_5 rfl rfl ?_
    refine aw_getI dX4_load_6 rfl rfl rfl flX4_75 ?_
    refine aw_icmp_ge (tgt := 39) dX4_load_9 rfl rfl (fun _ => ?_) (fun z => absurd (by rw [h0]; exact Int32.le_refl _) z)
    refine aw_iload_n dX4_load_39 rfl rfl ?_
    refine aw_if_eqB (tgt := 50) dX4_load_40 rfl rfl (fun c40 => ?_) (fun c40 => ?_)
    · skip
      refine aw_iconst 0 dX4_load_50 rfl (by decide) ?_
      refine aw_istore_n dX4_load_51 rfl (by decide) ?_
      show AW _ mX4_load 52 [_, _, _, _] _ _ _
      refine aw_iload_n dX4_load_52 rfl rfl ?_
      refine aw_if_ne (tgt := 59) dX4_load_53 rfl rfl (fun z => absurd rfl z) (fun _ => ?_)
      refine aw_bipush (-3) dX4_load_56 rfl (by decide) ?_
      refine aw_ret dX4_load_58 rfl rfl ?_
      exact k1 (by simpa using c40)
    · skip
      refine aw_aload_n dX4_load_43 rfl rfl ?_
      refine aw_V0 (M' := mX4_taken) dX4_load_44 rfl lkX4_192 gX4_taken rfl rfl (Nat.le_of_ble_eq_true rfl) (sX4_taken hn h0 hc h9 hLat hLiq (fun x y z f g b c => ?_))
      show AW _ mX4_load 47 _ (_ :: _) _ _
      refine aw_goto (q := 51) dX4_load_47 rfl ?_
      refine aw_istore_n dX4_load_51 rfl (by decide) ?_
      show AW _ mX4_load 52 [_, _, _, _] _ _ _
      refine aw_iload_n dX4_load_52 rfl rfl ?_
      refine aw_if_ne (tgt := 59) dX4_load_53 rfl rfl (fun c53 => ?_) (fun c53 => ?_)
      · skip
        refine aw_aload_n dX4_load_59 rfl rfl ?_
        refine aw_iload_n dX4_load_60 rfl rfl ?_
        refine aw_V1 (M' := mX4_findBest) dX4_load_61 rfl lkX4_176 gX4_findBest rfl rfl (Nat.le_of_ble_eq_true rfl) (sX4_findBest hn (h0s _ _ _ _ _ _ _) hc (h9s _ _ _ _ _ _ _) (by omega) hLat hLiq (fun f2 g2 => ?_))
        rw [mS_mS]
        simp only [fbS_mS]
        show AW _ mX4_load 64 _ _ _ _
        refine aw_aload_n dX4_load_64 rfl rfl ?_
        refine aw_V0 (M' := mX4_triesBest) dX4_load_65 rfl lkX4_180 gX4_triesBest rfl rfl (Nat.le_of_ble_eq_true rfl) (sX4_triesBest hn (h0s _ _ _ _ _ _ _) hc (h9s _ _ _ _ _ _ _) ?_)
        rw [mS_44, mS_45]
        show AW _ mX4_load 68 _ _ _ _
        refine sX4_load_68 hn h0 (fun t ht => if_pos ht) ?_
        exact k3 (by simpa using c40) (fun z => c53 (by rw [z]; decide)) _ _ _ _ _ _ _ _ _ _
      · skip
        refine aw_bipush (-3) dX4_load_56 rfl (by decide) ?_
        refine aw_ret dX4_load_58 rfl rfl ?_
        have hz : tkS σ n cn (2 ^ cn - 1) = 0 := by
          rcases Nat.eq_zero_or_pos (tkS σ n cn (2 ^ cn - 1)) with h | h
          · exact h
          · exact absurd c53 (nI_ne0 h (by omega))
        exact k2 (by simpa using c40) hz _ _ _ _ _ _ _
  · intro i hi_4 nx_4
    try dsimp only at nx_4 ⊢
    have hci : (nI i).toNatClampNeg = i := nI_clamp (by omega)
    refine aw_iload_n dX4_load_4 rfl rfl ?_
    refine aw_aload_n dX4_load_5 rfl rfl ?_
    refine aw_getI dX4_load_6 rfl rfl rfl flX4_75 ?_
    refine aw_icmp_ge (tgt := 39) dX4_load_9 rfl rfl (fun z => absurd z (by rw [h0]; exact nI_ge hi_4 (by omega))) (fun _ => ?_)
    refine aw_iload_n dX4_load_12 rfl rfl ?_
    refine aw_if_eqB (tgt := 31) dX4_load_13 rfl rfl (fun c13 => ?_) (fun c13 => ?_)
    · skip
      refine aw_iconst 0 dX4_load_31 rfl (by decide) ?_
      refine aw_istore_n dX4_load_32 rfl (by decide) ?_
      show AW _ mX4_load 33 [_, _, _, _] _ _ _
      refine aw_iinc dX4_load_33 rfl rfl (ii_1 _) (by decide) ?_
      show AW _ mX4_load 36 [_, _, _, _] _ _ _
      refine aw_goto (q := 4) dX4_load_36 rfl ?_
      refine AW.conv nx_4 ?_ rfl rfl
      simp only [nI_succ, anyB_s, Bool.not_or]
      simp [bB, hB, c13]
    · skip
      refine aw_aload_n dX4_load_16 rfl rfl ?_
      refine aw_getR dX4_load_17 rfl rfl rfl (by decide) flX4_28 ?_
      refine aw_iload_n dX4_load_20 rfl rfl ?_
      refine aw_iald dX4_load_21 rfl rfl (by first | exact vp_in_nI (by omega) (by omega) | decide) ?_
      try simp only [hci]
      refine aw_bipush (-9) dX4_load_22 rfl (by decide) ?_
      refine aw_icmp_ne (tgt := 31) dX4_load_24 rfl rfl (fun c24 => ?_) (fun c24 => ?_)
      · skip
        refine aw_iconst 0 dX4_load_31 rfl (by decide) ?_
        refine aw_istore_n dX4_load_32 rfl (by decide) ?_
        show AW _ mX4_load 33 [_, _, _, _] _ _ _
        refine aw_iinc dX4_load_33 rfl rfl (ii_1 _) (by decide) ?_
        show AW _ mX4_load 36 [_, _, _, _] _ _ _
        refine aw_goto (q := 4) dX4_load_36 rfl ?_
        refine AW.conv nx_4 ?_ rfl rfl
        simp only [nI_succ, anyB_s, Bool.not_or]
        simp [bB, hB, c13, c24]
      · skip
        refine aw_iconst 1 dX4_load_27 rfl (by decide) ?_
        refine aw_goto (q := 32) dX4_load_28 rfl ?_
        refine aw_istore_n dX4_load_32 rfl (by decide) ?_
        show AW _ mX4_load 33 [_, _, _, _] _ _ _
        refine aw_iinc dX4_load_33 rfl rfl (ii_1 _) (by decide) ?_
        show AW _ mX4_load 36 [_, _, _, _] _ _ _
        refine aw_goto (q := 4) dX4_load_36 rfl ?_
        refine AW.conv nx_4 ?_ rfl rfl
        simp only [nI_succ, anyB_s, Bool.not_or]
        simp [bB, hB, c13, c24]
end
section
set_option maxRecDepth 4000 in
theorem sX4_best_64 {d : Nat} {σ : SS} {K : ax_K} {w e : Int32} {n cn s : Nat} (hn : n ≤ 6) (h0 : σ 28 0 0 = nI n) (hc : cn ≤ 4) (h9 : σ 28 0 9 = nI cn) (hLat : ∀ x, x < 18 → lt9 (σ 33 0 x)) (hLiq : ∀ c, c < 4 → ∃ j, j < 8 ∧ σ 37 0 c = nI j) (hs16 : s < 16) (hw : bwOK w n)
    (k2 : w = 3 → ∀ (y0 z0 : Int32) (b0 : Nat → Int32), ∀ (x y z : Int32) (f g b c : Nat → Int32), K (some (fbS σ n cn s (mC s cn ^ n) (0, y0, z0, b0)).1) (mS σ x y z f g b c)) (k3 : ¬ w = 3 → ∀ (y0 z0 : Int32) (b0 : Nat → Int32), (fbS σ n cn s (mC s cn ^ n) (0, y0, z0, b0)).1 = 0 → ∀ (x y z : Int32) (f g b c : Nat → Int32), K (some (-9)) (mS σ x y z f g b c))
    (k4 : ∀ (y0 z0 : Int32) (b0 : Nat → Int32), ¬ (fbS σ n cn s (mC s cn ^ n) (0, y0, z0, b0)).1 = 0 → ∀ (x y z : Int32) (f g b c : Nat → Int32), (w = 0 → K (some (fbS σ n cn s (mC s cn ^ n) (0, y0, z0, b0)).2.1) (mS σ x y z f g b c)) ∧ (w = 1 → K (some (fbS σ n cn s (mC s cn ^ n) (0, y0, z0, b0)).2.2.1) (mS σ x y z f g b c)) ∧ (w = 2 → K (some (liS σ (fbS σ n cn s (mC s cn ^ n) (0, y0, z0, b0)).2.2.2 n cn + 100000)) (mS σ x y z f g b c)) ∧ (∀ t, t < n → w = nI (10 + t) → K (some ((fbS σ n cn s (mC s cn ^ n) (0, y0, z0, b0)).2.2.2 t)) (mS σ x y z f g b c)) ∧ (∀ t, t < n → w = nI (20 + t) → K (some (fl (σ 29 0) (σ 38 0) (fbS σ n cn s (mC s cn ^ n) (0, y0, z0, b0)).2.2.2 cn t)) (mS σ x y z f g b c))) : AW (d + 5) mX4_best 64 [some (.inr (28, 0)), some (.inl (nI s)), some (.inl w), some (.inl e)] [] σ K := by
  have h0s : ∀ x y z f g b c, (mS σ x y z f g b c) 28 0 0 = nI n := fun x y z f g b c => (mS_r28j (by decide)).trans h0
  have h9s : ∀ x y z f g b c, (mS σ x y z f g b c) 28 0 9 = nI cn := fun x y z f g b c => (mS_r28j (by decide)).trans h9
  show AW _ mX4_best 64 [_, _, _, _] _ _ _
  refine aw_aload_n dX4_best_64 rfl rfl ?_
  refine aw_iload_n dX4_best_65 rfl rfl ?_
  refine aw_V1 (M' := mX4_findBest) dX4_best_66 rfl lkX4_176 gX4_findBest rfl rfl (Nat.le_of_ble_eq_true rfl) (sX4_findBest hn h0 hc h9 hs16 hLat hLiq (fun f2 g2 => ?_))
  show AW _ mX4_best 69 _ _ _ _
  refine aw_iload_n dX4_best_69 rfl rfl ?_
  refine aw_iconst 3 dX4_best_70 rfl (by decide) ?_
  refine aw_icmp_ne (tgt := 79) dX4_best_71 rfl rfl (fun c71 => ?_) (fun c71 => ?_)
  · skip
    refine aw_aload_n dX4_best_79 rfl rfl ?_
    refine aw_getI dX4_best_80 rfl rfl rfl flX4_160 ?_
    refine aw_if_ne (tgt := 89) dX4_best_83 rfl rfl (fun c83 => ?_) (fun c83 => ?_)
    · skip
      have kq := k4 _ _ _ c83
      refine aw_aload_n dX4_best_89 rfl rfl ?_
      refine aw_V0 (M' := mX4_triesBest) dX4_best_90 rfl lkX4_180 gX4_triesBest rfl rfl (Nat.le_of_ble_eq_true rfl) (sX4_triesBest hn (h0s _ _ _ _ _ _ _) hc (h9s _ _ _ _ _ _ _) ?_)
      rw [mS_44, mS_45]
      show AW _ mX4_best 93 _ _ _ _
      refine aw_iload_n dX4_best_93 rfl rfl ?_
      refine aw_tsw 3 dX4_best_94 rfl (by decide) (by decide) (fun j hj sx => ?_) (fun sx => ?_)
      · match j, hj with
        | 0, _ =>
          refine AW.conv (pc := 120) ?_ rfl rfl rfl
          refine aw_aload_n dX4_best_120 rfl rfl ?_
          refine aw_getI dX4_best_121 rfl rfl rfl flX4_170 ?_
          refine aw_ret dX4_best_124 rfl rfl ?_
          exact (kq _ _ _ _ _ _ _).1 (sx.trans nI_0)
        | 1, _ =>
          refine AW.conv (pc := 125) ?_ rfl rfl rfl
          refine aw_aload_n dX4_best_125 rfl rfl ?_
          refine aw_getI dX4_best_126 rfl rfl rfl flX4_173 ?_
          refine aw_ret dX4_best_129 rfl rfl ?_
          exact (kq _ _ _ _ _ _ _).2.1 sx
        | 2, _ =>
          refine AW.conv (pc := 130) ?_ rfl rfl rfl
          refine aw_aload_n dX4_best_130 rfl rfl ?_
          refine aw_V0 (M' := mX4_listOf) dX4_best_131 rfl lkX4_140 gX4_listOf rfl rfl (Nat.le_of_ble_eq_true rfl) (sX4_listOf hn (h0s _ _ _ _ _ _ _) ?_)
          show AW _ mX4_best 134 _ (_ :: _) _ _
          refine aw_ldc dX4_best_134 rfl kcX4_159 ?_
          refine aw_iadd dX4_best_136 rfl ?_
          refine aw_ret dX4_best_137 rfl rfl ?_
          refine kk_c ((kq _ _ _ _ _ _ _).2.2.1 sx) ?_ rfl
          exact congrArg (fun z => some (z + 100000)) (sumI_congr (fun t ht => by rw [mS_r45, if_pos ht]; rfl)).symm
        | j + 3, hj => exact absurd hj (by omega)
      · refine AW.conv (pc := 138) ?_ rfl rfl rfl
        have hw2 : bw2 w n := by
          rcases hw with h | h
          · obtain ⟨j, hj, rfl⟩ := bd_of 3 (by decide) h
            exfalso
            match j, hj with
            | 0, _ => exact sx 0 (by decide) rfl
            | 1, _ => exact sx 1 (by decide) rfl
            | 2, _ => exact sx 2 (by decide) rfl
            | 3, _ => exact c71 (by decide)
            | j + 4, hj => exact absurd hj (by omega)
          · exact h
        refine aw_iload_n dX4_best_138 rfl rfl ?_
        refine aw_bipush 20 dX4_best_139 rfl (by decide) ?_
        refine aw_icmp_ge (tgt := 156) dX4_best_141 rfl rfl (fun c141 => ?_) (fun c141 => ?_)
        · skip
          obtain ⟨t, ht, ew⟩ := hw2.resolve_left (fun z => by
            obtain ⟨t, ht, rfl⟩ := z
            exact absurd (show nI 20 ≤ _ from c141) (nI_ge (by omega) (by omega)))
          have esub : w - 20 = nI t := by rw [ew, show (20 : Int32) = nI 20 by decide, pk_sub (by omega), Nat.add_sub_cancel_left]
          have hct : (nI t).toNatClampNeg = t := nI_clamp (by omega)
          refine aw_aload_n dX4_best_156 rfl rfl ?_
          refine aw_getR dX4_best_157 rfl rfl rfl (by decide) flX4_62 ?_
          refine aw_iload_n dX4_best_160 rfl rfl ?_
          refine aw_bipush 20 dX4_best_161 rfl (by decide) ?_
          refine aw_isub dX4_best_163 rfl ?_
          rw [esub]
          refine aw_iald dX4_best_164 rfl rfl (vp_in_nI (by omega) (by omega)) ?_
          try simp only [hct]
          refine aw_ret dX4_best_165 rfl rfl ?_
          refine kk_c ((kq _ _ _ _ _ _ _).2.2.2.2 t ht ew) ?_ rfl
          rw [mS_r45, if_pos ht]
          rfl
        · skip
          obtain ⟨t, ht, ew⟩ := hw2.resolve_right (fun z => by
            obtain ⟨t, ht, rfl⟩ := z
            exact c141 (show nI 20 ≤ _ from nI_le (by omega) (by omega)))
          have esub : w - 10 = nI t := by rw [ew, show (10 : Int32) = nI 10 by decide, pk_sub (by omega), Nat.add_sub_cancel_left]
          have hct : (nI t).toNatClampNeg = t := nI_clamp (by omega)
          refine aw_aload_n dX4_best_144 rfl rfl ?_
          refine aw_getR dX4_best_145 rfl rfl rfl (by decide) flX4_65 ?_
          refine aw_iload_n dX4_best_148 rfl rfl ?_
          refine aw_bipush 10 dX4_best_149 rfl (by decide) ?_
          refine aw_isub dX4_best_151 rfl ?_
          rw [esub]
          refine aw_iald dX4_best_152 rfl rfl (vp_in_nI (by omega) (by omega)) ?_
          try simp only [hct]
          refine aw_goto (q := 165) dX4_best_153 rfl ?_
          refine aw_ret dX4_best_165 rfl rfl ?_
          exact (kq _ _ _ _ _ _ _).2.2.2.1 t ht ew
    · skip
      refine aw_bipush (-9) dX4_best_86 rfl (by decide) ?_
      refine aw_ret dX4_best_88 rfl rfl ?_
      exact k3 c71 _ _ _ c83 _ _ _ _ _ _ _
  · skip
    refine aw_aload_n dX4_best_74 rfl rfl ?_
    refine aw_getI dX4_best_75 rfl rfl rfl flX4_160 ?_
    refine aw_ret dX4_best_78 rfl rfl ?_
    exact k2 c71 _ _ _ _ _ _ _ _ _ _
set_option maxRecDepth 4000 in
theorem sX4_best_39 {d : Nat} {σ : SS} {K : ax_K} {v w e : Int32} {n cn : Nat} (hn : n ≤ 6) (h0 : σ 28 0 0 = nI n) (hc : cn ≤ 4) (h9 : σ 28 0 9 = nI cn) (hLat : ∀ x, x < 18 → lt9 (σ 33 0 x)) (hLiq : ∀ c, c < 4 → ∃ j, j < 8 ∧ σ 37 0 c = nI j) (he : ¬ e = 0 ↔ bw2 w n)
    (k1 : ¬ (ixn v (2 ^ cn) ∧ bwOK w n) → K (some (-2)) σ) (kk : ∀ s, s < 2 ^ cn → v = nI s → bwOK w n → AW (d + 5) mX4_best 64 [some (.inr (28, 0)), some (.inl (nI s)), some (.inl w), some (.inl e)] [] σ K) : AW (d + 5) mX4_best 39 [some (.inr (28, 0)), some (.inl v), some (.inl w), none] [.inl e] σ K := by
  show AW _ mX4_best 39 [_, _, _, _] _ _ _
  refine aw_istore_n dX4_best_39 rfl (by decide) ?_
  show AW _ mX4_best 40 [_, _, _, _] _ _ _
  refine aw_aload_n dX4_best_40 rfl rfl ?_
  refine aw_iload_n dX4_best_41 rfl rfl ?_
  refine aw_V1 (M' := mX4_isSetOfCargoes) dX4_best_42 rfl lkX4_144 gX4_isSetOfCargoes rfl rfl (Nat.le_of_ble_eq_true rfl) (sX4_isSetOfCargoes hc h9 ?_)
  show AW _ mX4_best 45 _ (_ :: _) _ _
  refine aw_if_eqb (tgt := 61) dX4_best_45 rfl rfl (fun c45 => ?_) (fun c45 => ?_)
  · skip
    refine aw_bipush (-2) dX4_best_61 rfl (by decide) ?_
    refine aw_ret dX4_best_63 rfl rfl ?_
    refine k1 (fun z => ?_)
    first | exact c45 z.1 | exact z.2.elim c54 (fun q => he.mpr q c58)
  · skip
    refine aw_iload_n dX4_best_48 rfl rfl ?_
    refine aw_iconst 0 dX4_best_49 rfl (by decide) ?_
    refine aw_iconst 3 dX4_best_50 rfl (by decide) ?_
    refine aw_S3 (M' := mX4_within) dX4_best_51 rfl lkX4_71 gX4_within (Nat.le_of_ble_eq_true rfl) (sX4_within ?_)
    show AW _ mX4_best 54 _ (_ :: _) _ _
    refine aw_if_neb (tgt := 64) dX4_best_54 rfl rfl (fun c54 => ?_) (fun c54 => ?_)
    · skip
      obtain ⟨s, hs, rfl⟩ := ixn_of c45 (two_lt hc)
      exact kk s hs rfl (Or.inl c54)
    · skip
      refine aw_iload_n dX4_best_57 rfl rfl ?_
      refine aw_if_ne (tgt := 64) dX4_best_58 rfl rfl (fun c58 => ?_) (fun c58 => ?_)
      · skip
        obtain ⟨s, hs, rfl⟩ := ixn_of c45 (two_lt hc)
        exact kk s hs rfl (Or.inr (he.mp c58))
      · skip
        refine aw_bipush (-2) dX4_best_61 rfl (by decide) ?_
        refine aw_ret dX4_best_63 rfl rfl ?_
        refine k1 (fun z => ?_)
        first | exact c45 z.1 | exact z.2.elim c54 (fun q => he.mpr q c58)
set_option maxRecDepth 4000 in
theorem sX4_best {d : Nat} {σ : SS} {K : ax_K} {v w : Int32} {n cn : Nat} (hn : n ≤ 6) (h0 : σ 28 0 0 = nI n) (hc : cn ≤ 4) (h9 : σ 28 0 9 = nI cn) (hLat : ∀ x, x < 18 → lt9 (σ 33 0 x)) (hLiq : ∀ c, c < 4 → ∃ j, j < 8 ∧ σ 37 0 c = nI j) (k1 : ¬ (ixn v (2 ^ cn) ∧ bwOK w n) → K (some (-2)) σ)
    (kk : ∀ s, s < 2 ^ cn → v = nI s → bwOK w n → ∀ e : Int32, AW (d + 5) mX4_best 64 [some (.inr (28, 0)), some (.inl (nI s)), some (.inl w), some (.inl e)] [] σ K) : AW (d + 5) mX4_best 0 (ax_en mX4_best [.inr (28, 0), .inl v, .inl w]) [] σ K := by
  show AW _ mX4_best 0 [_, _, _, _] _ _ _
  refine aw_iload_n dX4_best_0 rfl rfl ?_
  refine aw_bipush 20 dX4_best_1 rfl (by decide) ?_
  refine aw_icmp_lt (tgt := 17) dX4_best_3 rfl rfl (fun c3 => ?_) (fun c3 => ?_)
  · skip
    refine aw_iload_n dX4_best_17 rfl rfl ?_
    refine aw_bipush 10 dX4_best_18 rfl (by decide) ?_
    refine aw_icmp_lt (tgt := 38) dX4_best_20 rfl rfl (fun c20 => ?_) (fun c20 => ?_)
    · skip
      refine aw_iconst 0 dX4_best_38 rfl (by decide) ?_
      refine sX4_best_39 hn h0 hc h9 hLat hLiq ?_ k1 (fun s hs e hw => kk s hs e hw _)
      exact ⟨fun z => absurd rfl z, fun z => absurd z (fun q => q.elim (bw_lt (by decide) hn c20) (bw_lt (by decide) hn c3))⟩
    · skip
      refine aw_aload_n dX4_best_23 rfl rfl ?_
      refine aw_iload_n dX4_best_24 rfl rfl ?_
      refine aw_bipush 10 dX4_best_25 rfl (by decide) ?_
      refine aw_isub dX4_best_27 rfl ?_
      refine aw_V1 (M' := mX4_isTank) dX4_best_28 rfl lkX4_78 gX4_isTank rfl rfl (Nat.le_of_ble_eq_true rfl) (sX4_isTank hn h0 ?_)
      show AW _ mX4_best 31 _ (_ :: _) _ _
      refine aw_if_eqb (tgt := 38) dX4_best_31 rfl rfl (fun c31 => ?_) (fun c31 => ?_)
      · skip
        refine aw_iconst 0 dX4_best_38 rfl (by decide) ?_
        refine sX4_best_39 hn h0 hc h9 hLat hLiq ?_ k1 (fun s hs e hw => kk s hs e hw _)
        rw [show (10 : Int32) = nI 10 by decide, bw_ix (by decide) hn (Int32.not_lt.mp c20)] at c31
        exact ⟨fun z => absurd rfl z, fun z => absurd z (fun q => q.elim c31 (bw_lt (by decide) hn c3))⟩
      · skip
        refine aw_iconst 1 dX4_best_34 rfl (by decide) ?_
        refine aw_goto (q := 39) dX4_best_35 rfl ?_
        refine sX4_best_39 hn h0 hc h9 hLat hLiq ?_ k1 (fun s hs e hw => kk s hs e hw _)
        rw [show (10 : Int32) = nI 10 by decide, bw_ix (by decide) hn (Int32.not_lt.mp c20)] at c31
        exact ⟨fun _ => Or.inl c31, fun _ => by decide⟩
  · skip
    refine aw_aload_n dX4_best_6 rfl rfl ?_
    refine aw_iload_n dX4_best_7 rfl rfl ?_
    refine aw_bipush 20 dX4_best_8 rfl (by decide) ?_
    refine aw_isub dX4_best_10 rfl ?_
    refine aw_V1 (M' := mX4_isTank) dX4_best_11 rfl lkX4_78 gX4_isTank rfl rfl (Nat.le_of_ble_eq_true rfl) (sX4_isTank hn h0 ?_)
    show AW _ mX4_best 14 _ (_ :: _) _ _
    refine aw_goto (q := 39) dX4_best_14 rfl ?_
    refine sX4_best_39 hn h0 hc h9 hLat hLiq ?_ k1 (fun s hs e hw => kk s hs e hw _)
    rw [bI_0, Decidable.not_not, show (20 : Int32) = nI 20 by decide, bw_ix (by decide) hn (Int32.not_lt.mp c3)]
    exact ⟨Or.inr, fun z => z.resolve_left (bw_ge hn (Int32.not_lt.mp c3))⟩
end
section
/-! ===== words of the class's specs: the class's state seen in the reference's rows ===== -/
def vw (σ : SS) : SS := fun k _ => match k with
  | 28 => fun j => if j = 0 then σ 0 0 7 else if j = 9 then σ 0 0 8 else if j = 17 then σ 0 0 9 else if j = 25 then σ 0 0 10 else 0
  | 29 => fun t => σ 8 t 0
  | 30 => fun t => σ 8 t 1
  | 31 => fun t => σ 8 t 2
  | 32 => fun t => σ 8 t 3
  | 33 => fun x => σ 9 (x / 3) (x % 3)
  | 34 => σ 5 0
  | 35 => fun t => σ 8 t 5
  | 36 => fun t => σ 8 t 6
  | 37 => fun c => σ 10 c 0
  | 38 => fun c => σ 10 c 1
  | 39 => fun c => σ 10 c 2
  | 40 => fun c => σ 10 c 3
  | 41 => fun c => σ 10 c 4
  | 42 => fun c => σ 10 c 5
  | 43 => σ 3 0
  | _ => fun _ => 0
theorem vw33 (σ : SS) (t : Nat) {k : Nat} (hk : k < 3) : (vw σ) 33 0 (3 * t + k) = σ 9 t k := by
  show σ 9 ((3 * t + k) / 3) ((3 * t + k) % 3) = σ 9 t k
  rw [show (3 * t + k) / 3 = t by omega, show (3 * t + k) % 3 = k by omega]
/-- bit k of a set, none if k is below 0 -/
def hc (s k : Int32) : Bool := decide (0 ≤ k) && hb s k
theorem hc_nI (s : Int32) {t : Nat} (h : t < 2 ^ 31) : hc s (nI t) = hb s (nI t) := by
  unfold hc
  rw [decide_eq_true (nI_pos' h), Bool.true_and]
theorem hc_9 (s : Int32) : hc s (-9) = false := by
  unfold hc
  rw [decide_eq_false (by decide), Bool.false_and]
theorem and1 (x : Int32) : x &&& 1 = 0 ∨ x &&& 1 = 1 := by
  rw [pk_and x (m := 1) 1 (by decide)]
  rcases (show x.toBitVec.toNat % 2 ^ 1 = 0 ∨ x.toBitVec.toNat % 2 ^ 1 = 1 by omega) with h | h <;> rw [h]
  · exact Or.inl (by decide)
  · exact Or.inr (by decide)
/-- faults, as the class counts them -/
def whyC (bears behind never coat : Int32) (lat : Nat → Int32) (i : Nat) : Int32 := lp i (fun k a => if hc never (lat k) = true then a ||| 4 else a) (if hc behind (lat 0) = true then (if hc bears coat = true then 0 else 1) ||| 2 else (if hc bears coat = true then 0 else 1))
theorem whyC_s (bears behind never coat : Int32) (lat : Nat → Int32) (i : Nat) : whyC bears behind never coat lat (i + 1) = if hc never (lat i) = true then whyC bears behind never coat lat i ||| 4 else whyC bears behind never coat lat i := rfl
theorem lt9_hc {s v : Int32} (h : lt9 v) : hc s v = if v = -9 then false else hb s v := by
  rcases h with rfl | ⟨j, hj, rfl⟩
  · rw [hc_9, if_pos rfl]
  · rw [hc_nI s (by omega), if_neg]
    intro z
    have := congrArg Int32.toInt z
    rw [nI_toInt (by omega)] at this
    have e : (-9 : Int32).toInt = -9 := by decide
    rw [e] at this
    omega
theorem why_eq {bears behind never coat : Int32} {lat : Nat → Int32} (hcoat : 0 ≤ coat) (h0 : lt9 (lat 0)) (h1 : lt9 (lat 1)) (h2 : lt9 (lat 2)) : whyC bears behind never coat lat 3 = whyM bears behind never coat lat := by
  have hb0 : hc bears coat = hb bears coat := by unfold hc; rw [decide_eq_true hcoat, Bool.true_and]
  unfold whyC whyM whyL
  simp only [lp_s, lp_0, lt9_hc h0, lt9_hc h1, lt9_hc h2, hb0, hs]
  have n0 : nI 0 = 0 := by decide
  have n1 : ¬ nI 1 = 0 := by decide
  have n2 : ¬ nI 2 = 0 := by decide
  have z1 : ∀ x : Int32, x ||| 0 = x := fun x => by simp
  simp only [n0, n1, n2, true_and, false_and]
  generalize hb bears coat = p
  generalize hb behind (lat 0) = q
  generalize hb never (lat 0) = a
  generalize hb never (lat 1) = b
  generalize hb never (lat 2) = e
  by_cases e0 : lat 0 = -9 <;> by_cases e1 : lat 1 = -9 <;> by_cases e2 : lat 2 = -9 <;> simp only [e0, e1, e2, if_true, if_false] <;> cases p <;> cases q <;> cases a <;> cases b <;> cases e <;> decide
theorem anyB_t {n i : Nat} {p : Nat → Bool} (hi : i < n) (h : p i = true) : anyB n p = true := anyB_iff.mpr ⟨i, hi, h⟩
theorem ne9 {j : Nat} (h : j < 2 ^ 31) : ¬ nI j = -9 := by
  intro z
  have := congrArg Int32.toInt z
  rw [nI_toInt h, show (-9 : Int32).toInt = -9 by decide] at this
  omega
theorem ci0 : (0 : Int32).toNatClampNeg = 0 := by decide
theorem ci1 : (1 : Int32).toNatClampNeg = 1 := by decide
theorem ci2 : (2 : Int32).toNatClampNeg = 2 := by decide
end
section
set_option maxRecDepth 4000 in
theorem sX3_within {d : Nat} {σ : SS} {K : ax_K} {v a b : Int32}  (hK : K (some (bI (a ≤ v ∧ v ≤ b))) σ) : AW d mX3_within 0 (ax_en mX3_within [.inl v, .inl a, .inl b]) [] σ K := by
  show AW _ mX3_within 0 [_, _, _] _ _ _
  refine aw_iload_n dX3_within_0 rfl rfl ?_
  refine aw_iload_n dX3_within_1 rfl rfl ?_
  refine aw_icmp_lt (tgt := 14) dX3_within_2 rfl rfl (fun c2 => ?_) (fun c2 => ?_)
  · skip
    refine aw_iconst 0 dX3_within_14 rfl (by decide) ?_
    refine aw_ret dX3_within_15 rfl (by decide) ?_
    first | exact kb_t hK ⟨Int32.not_lt.mp (by assumption), Int32.not_lt.mp (by assumption)⟩ | exact kb_f hK (fun z => absurd (by assumption) (Int32.not_lt.mpr z.1)) | exact kb_f hK (fun z => absurd (by assumption) (Int32.not_lt.mpr z.2))
  · skip
    refine aw_iload_n dX3_within_5 rfl rfl ?_
    refine aw_iload_n dX3_within_6 rfl rfl ?_
    refine aw_icmp_gt (tgt := 14) dX3_within_7 rfl rfl (fun c7 => ?_) (fun c7 => ?_)
    · skip
      refine aw_iconst 0 dX3_within_14 rfl (by decide) ?_
      refine aw_ret dX3_within_15 rfl (by decide) ?_
      first | exact kb_t hK ⟨Int32.not_lt.mp (by assumption), Int32.not_lt.mp (by assumption)⟩ | exact kb_f hK (fun z => absurd (by assumption) (Int32.not_lt.mpr z.1)) | exact kb_f hK (fun z => absurd (by assumption) (Int32.not_lt.mpr z.2))
    · skip
      refine aw_iconst 1 dX3_within_10 rfl (by decide) ?_
      refine aw_goto (q := 15) dX3_within_11 rfl ?_
      refine aw_ret dX3_within_15 rfl (by decide) ?_
      first | exact kb_t hK ⟨Int32.not_lt.mp (by assumption), Int32.not_lt.mp (by assumption)⟩ | exact kb_f hK (fun z => absurd (by assumption) (Int32.not_lt.mpr z.1)) | exact kb_f hK (fun z => absurd (by assumption) (Int32.not_lt.mpr z.2))
set_option maxRecDepth 4000 in
theorem sX3_isLiquid {d : Nat} {σ : SS} {K : ax_K} {v : Int32}  (hK : K (some (bI (0 ≤ v ∧ v ≤ 7))) σ) : AW (d + 1) mX3_isLiquid 0 (ax_en mX3_isLiquid [.inl v]) [] σ K := by
  show AW _ mX3_isLiquid 0 [_] _ _ _
  refine aw_iload_n dX3_isLiquid_0 rfl rfl ?_
  refine aw_iconst 0 dX3_isLiquid_1 rfl (by decide) ?_
  refine aw_bipush 7 dX3_isLiquid_2 rfl (by decide) ?_
  refine aw_S3 (M' := mX3_within) dX3_isLiquid_4 rfl lkX3_60 gX3_within (Nat.le_of_ble_eq_true rfl) (sX3_within ?_)
  show AW _ mX3_isLiquid 7 _ (_ :: _) _ _
  refine aw_ret dX3_isLiquid_7 rfl (by unfold bI; split <;> decide) ?_
  exact hK
set_option maxRecDepth 4000 in
theorem sX3_isLiquidSet {d : Nat} {σ : SS} {K : ax_K} {v : Int32}  (hK : K (some (bI (0 ≤ v ∧ v ≤ 255))) σ) : AW (d + 1) mX3_isLiquidSet 0 (ax_en mX3_isLiquidSet [.inl v]) [] σ K := by
  show AW _ mX3_isLiquidSet 0 [_] _ _ _
  refine aw_iload_n dX3_isLiquidSet_0 rfl rfl ?_
  refine aw_iconst 0 dX3_isLiquidSet_1 rfl (by decide) ?_
  refine aw_sipush 255 dX3_isLiquidSet_2 rfl (by decide) ?_
  refine aw_S3 (M' := mX3_within) dX3_isLiquidSet_5 rfl lkX3_60 gX3_within (Nat.le_of_ble_eq_true rfl) (sX3_within ?_)
  show AW _ mX3_isLiquidSet 8 _ (_ :: _) _ _
  refine aw_ret dX3_isLiquidSet_8 rfl (by unfold bI; split <;> decide) ?_
  exact hK
set_option maxRecDepth 4000 in
theorem sX3_isAmount {d : Nat} {σ : SS} {K : ax_K} {v : Int32}  (hK : K (some (bI (1 ≤ v ∧ v ≤ 400))) σ) : AW (d + 1) mX3_isAmount 0 (ax_en mX3_isAmount [.inl v]) [] σ K := by
  show AW _ mX3_isAmount 0 [_] _ _ _
  refine aw_iload_n dX3_isAmount_0 rfl rfl ?_
  refine aw_iconst 1 dX3_isAmount_1 rfl (by decide) ?_
  refine aw_sipush 400 dX3_isAmount_2 rfl (by decide) ?_
  refine aw_S3 (M' := mX3_within) dX3_isAmount_5 rfl lkX3_60 gX3_within (Nat.le_of_ble_eq_true rfl) (sX3_within ?_)
  show AW _ mX3_isAmount 8 _ (_ :: _) _ _
  refine aw_ret dX3_isAmount_8 rfl (by unfold bI; split <;> decide) ?_
  exact hK
set_option maxRecDepth 4000 in
theorem sX3_has {d : Nat} {σ : SS} {K : ax_K} {v k : Int32}  (hK : K (some (bB (hc v k))) σ) : AW d mX3_has 0 (ax_en mX3_has [.inl v, .inl k]) [] σ K := by
  show AW _ mX3_has 0 [_, _] _ _ _
  refine aw_iload_n dX3_has_0 rfl rfl ?_
  refine aw_if_lt (tgt := 16) dX3_has_1 rfl rfl (fun c1 => ?_) (fun c1 => ?_)
  · skip
    refine aw_iconst 0 dX3_has_16 rfl (by decide) ?_
    refine aw_ret dX3_has_17 rfl (by decide) ?_
    exact kk_c hK (by unfold hc; rw [decide_eq_false (Int32.not_le.mpr c1)]; rfl) rfl
  · skip
    refine aw_iload_n dX3_has_4 rfl rfl ?_
    refine aw_iload_n dX3_has_5 rfl rfl ?_
    refine aw_ishr dX3_has_6 rfl ?_
    refine aw_iconst 1 dX3_has_7 rfl (by decide) ?_
    refine aw_iand dX3_has_8 rfl ?_
    refine aw_if_eq (tgt := 16) dX3_has_9 rfl rfl (fun c9 => ?_) (fun c9 => ?_)
    · skip
      refine aw_iconst 0 dX3_has_16 rfl (by decide) ?_
      refine aw_ret dX3_has_17 rfl (by decide) ?_
      exact kk_c hK (by unfold hc; rw [decide_eq_true (Int32.not_lt.mp c1), Bool.true_and, hb, decide_eq_false (fun z => by rw [c9] at z; exact absurd z (by decide))]; rfl) rfl
    · skip
      refine aw_iconst 1 dX3_has_12 rfl (by decide) ?_
      refine aw_goto (q := 17) dX3_has_13 rfl ?_
      refine aw_ret dX3_has_17 rfl (by decide) ?_
      exact kk_c hK (by unfold hc; rw [decide_eq_true (Int32.not_lt.mp c1), Bool.true_and, hb, decide_eq_true ((and1 _).resolve_left c9)]; rfl) rfl
set_option maxRecDepth 4000 in
theorem sX3_isTank {d : Nat} {σ : SS} {K : ax_K} {t : Int32} {n : Nat} (hn : n ≤ 6) (h0 : σ 0 0 7 = nI n) (hK : K (some (bI (ixn t n))) σ) : AW d mX3_isTank 0 (ax_en mX3_isTank [.inr (0, 0), .inl t]) [] σ K := by
  show AW _ mX3_isTank 0 [_, _] _ _ _
  refine aw_iload_n dX3_isTank_0 rfl rfl ?_
  refine aw_if_lt (tgt := 16) dX3_isTank_1 rfl rfl (fun c1 => ?_) (fun c1 => ?_)
  · skip
    refine aw_iconst 0 dX3_isTank_16 rfl (by decide) ?_
    refine aw_ret dX3_isTank_17 rfl (by decide) ?_
    exact kb_f hK (fun z => absurd c1 (Int32.not_lt.mpr ((ixn_lt (by omega)).mp z).1))
  · skip
    refine aw_iload_n dX3_isTank_4 rfl rfl ?_
    refine aw_aload_n dX3_isTank_5 rfl rfl ?_
    refine aw_getI dX3_isTank_6 rfl rfl rfl flX3_41 ?_
    refine aw_icmp_ge (tgt := 16) dX3_isTank_9 rfl rfl (fun c9 => ?_) (fun c9 => ?_)
    · skip
      refine aw_iconst 0 dX3_isTank_16 rfl (by decide) ?_
      refine aw_ret dX3_isTank_17 rfl (by decide) ?_
      rw [h0] at c9
      exact kb_f hK (fun z => absurd c9 (Int32.not_le.mpr ((ixn_lt (by omega)).mp z).2))
    · skip
      refine aw_iconst 1 dX3_isTank_12 rfl (by decide) ?_
      refine aw_goto (q := 17) dX3_isTank_13 rfl ?_
      refine aw_ret dX3_isTank_17 rfl (by decide) ?_
      rw [h0] at c9
      exact kb_t hK ((ixn_lt (by omega)).mpr ⟨Int32.not_lt.mp c1, Int32.not_le.mp c9⟩)
set_option maxRecDepth 4000 in
theorem sX3_isCargo {d : Nat} {σ : SS} {K : ax_K} {t : Int32} {cn : Nat} (hc : cn ≤ 4) (h9 : σ 0 0 8 = nI cn) (hK : K (some (bI (ixn t cn))) σ) : AW d mX3_isCargo 0 (ax_en mX3_isCargo [.inr (0, 0), .inl t]) [] σ K := by
  show AW _ mX3_isCargo 0 [_, _] _ _ _
  refine aw_iload_n dX3_isCargo_0 rfl rfl ?_
  refine aw_if_lt (tgt := 16) dX3_isCargo_1 rfl rfl (fun c1 => ?_) (fun c1 => ?_)
  · skip
    refine aw_iconst 0 dX3_isCargo_16 rfl (by decide) ?_
    refine aw_ret dX3_isCargo_17 rfl (by decide) ?_
    exact kb_f hK (fun z => absurd c1 (Int32.not_lt.mpr ((ixn_lt (by omega)).mp z).1))
  · skip
    refine aw_iload_n dX3_isCargo_4 rfl rfl ?_
    refine aw_aload_n dX3_isCargo_5 rfl rfl ?_
    refine aw_getI dX3_isCargo_6 rfl rfl rfl flX3_45 ?_
    refine aw_icmp_ge (tgt := 16) dX3_isCargo_9 rfl rfl (fun c9 => ?_) (fun c9 => ?_)
    · skip
      refine aw_iconst 0 dX3_isCargo_16 rfl (by decide) ?_
      refine aw_ret dX3_isCargo_17 rfl (by decide) ?_
      rw [h9] at c9
      exact kb_f hK (fun z => absurd c9 (Int32.not_le.mpr ((ixn_lt (by omega)).mp z).2))
    · skip
      refine aw_iconst 1 dX3_isCargo_12 rfl (by decide) ?_
      refine aw_goto (q := 17) dX3_isCargo_13 rfl ?_
      refine aw_ret dX3_isCargo_17 rfl (by decide) ?_
      rw [h9] at c9
      exact kb_t hK ((ixn_lt (by omega)).mpr ⟨Int32.not_lt.mp c1, Int32.not_le.mp c9⟩)
set_option maxRecDepth 4000 in
theorem sX3_isCargoSet {d : Nat} {σ : SS} {K : ax_K} {t : Int32} {cn : Nat} (hc : cn ≤ 4) (h9 : σ 0 0 8 = nI cn) (hK : K (some (bI (ixn t (2 ^ cn)))) σ) : AW d mX3_isCargoSet 0 (ax_en mX3_isCargoSet [.inr (0, 0), .inl t]) [] σ K := by
  show AW _ mX3_isCargoSet 0 [_, _] _ _ _
  refine aw_iload_n dX3_isCargoSet_0 rfl rfl ?_
  refine aw_if_lt (tgt := 18) dX3_isCargoSet_1 rfl rfl (fun c1 => ?_) (fun c1 => ?_)
  · skip
    refine aw_iconst 0 dX3_isCargoSet_18 rfl (by decide) ?_
    refine aw_ret dX3_isCargoSet_19 rfl (by decide) ?_
    exact kb_f hK (fun z => absurd c1 (Int32.not_lt.mpr ((ixn_lt (two_lt hc)).mp z).1))
  · skip
    refine aw_iload_n dX3_isCargoSet_4 rfl rfl ?_
    refine aw_iconst 1 dX3_isCargoSet_5 rfl (by decide) ?_
    refine aw_aload_n dX3_isCargoSet_6 rfl rfl ?_
    refine aw_getI dX3_isCargoSet_7 rfl rfl rfl flX3_45 ?_
    refine aw_ishl dX3_isCargoSet_10 rfl ?_
    rw [h9, shl1 hc]
    refine aw_icmp_ge (tgt := 18) dX3_isCargoSet_11 rfl rfl (fun c11 => ?_) (fun c11 => ?_)
    · skip
      refine aw_iconst 0 dX3_isCargoSet_18 rfl (by decide) ?_
      refine aw_ret dX3_isCargoSet_19 rfl (by decide) ?_
      exact kb_f hK (fun z => absurd c11 (Int32.not_le.mpr ((ixn_lt (two_lt hc)).mp z).2))
    · skip
      refine aw_iconst 1 dX3_isCargoSet_14 rfl (by decide) ?_
      refine aw_goto (q := 19) dX3_isCargoSet_15 rfl ?_
      refine aw_ret dX3_isCargoSet_19 rfl (by decide) ?_
      exact kb_t hK ((ixn_lt (two_lt hc)).mpr ⟨Int32.not_lt.mp c1, Int32.not_le.mp c11⟩)
set_option maxRecDepth 4000 in
theorem sX3_areTwoTanks {d : Nat} {σ : SS} {K : ax_K} {i j : Int32} {n : Nat} (hn : n ≤ 6) (h0 : σ 0 0 7 = nI n) (hK : K (some (bI (ixn i n ∧ ixn j n ∧ i ≠ j))) σ) : AW (d + 1) mX3_areTwoTanks 0 (ax_en mX3_areTwoTanks [.inr (0, 0), .inl i, .inl j]) [] σ K := by
  show AW _ mX3_areTwoTanks 0 [_, _, _] _ _ _
  refine aw_aload_n dX3_areTwoTanks_0 rfl rfl ?_
  refine aw_iload_n dX3_areTwoTanks_1 rfl rfl ?_
  refine aw_V1 (M' := mX3_isTank) dX3_areTwoTanks_2 rfl lkX3_83 gX3_isTank rfl rfl (Nat.le_of_ble_eq_true rfl) (sX3_isTank hn h0 ?_)
  show AW _ mX3_areTwoTanks 5 _ (_ :: _) _ _
  refine aw_if_eqb (tgt := 25) dX3_areTwoTanks_5 rfl rfl (fun c5 => ?_) (fun c5 => ?_)
  · skip
    refine aw_iconst 0 dX3_areTwoTanks_25 rfl (by decide) ?_
    refine aw_ret dX3_areTwoTanks_26 rfl (by decide) ?_
    first | exact kb_t hK ⟨by assumption, by assumption, by assumption⟩ | exact kb_f hK (fun z => by simp_all)
  · skip
    refine aw_aload_n dX3_areTwoTanks_8 rfl rfl ?_
    refine aw_iload_n dX3_areTwoTanks_9 rfl rfl ?_
    refine aw_V1 (M' := mX3_isTank) dX3_areTwoTanks_10 rfl lkX3_83 gX3_isTank rfl rfl (Nat.le_of_ble_eq_true rfl) (sX3_isTank hn h0 ?_)
    show AW _ mX3_areTwoTanks 13 _ (_ :: _) _ _
    refine aw_if_eqb (tgt := 25) dX3_areTwoTanks_13 rfl rfl (fun c13 => ?_) (fun c13 => ?_)
    · skip
      refine aw_iconst 0 dX3_areTwoTanks_25 rfl (by decide) ?_
      refine aw_ret dX3_areTwoTanks_26 rfl (by decide) ?_
      first | exact kb_t hK ⟨by assumption, by assumption, by assumption⟩ | exact kb_f hK (fun z => by simp_all)
    · skip
      refine aw_iload_n dX3_areTwoTanks_16 rfl rfl ?_
      refine aw_iload_n dX3_areTwoTanks_17 rfl rfl ?_
      refine aw_icmp_eq (tgt := 25) dX3_areTwoTanks_18 rfl rfl (fun c18 => ?_) (fun c18 => ?_)
      · skip
        refine aw_iconst 0 dX3_areTwoTanks_25 rfl (by decide) ?_
        refine aw_ret dX3_areTwoTanks_26 rfl (by decide) ?_
        first | exact kb_t hK ⟨by assumption, by assumption, by assumption⟩ | exact kb_f hK (fun z => by simp_all)
      · skip
        refine aw_iconst 1 dX3_areTwoTanks_21 rfl (by decide) ?_
        refine aw_goto (q := 26) dX3_areTwoTanks_22 rfl ?_
        refine aw_ret dX3_areTwoTanks_26 rfl (by decide) ?_
        first | exact kb_t hK ⟨by assumption, by assumption, by assumption⟩ | exact kb_f hK (fun z => by simp_all)
set_option maxRecDepth 4000 in
theorem sX3_clash {d : Nat} {σ : SS} {K : ax_K} {a b : Nat} (ha : a < 4) (hb4 : b < 4) (hLiq : ∀ c, c < 4 → ∃ j, j < 8 ∧ σ 10 c 0 = nI j) (hK : K (some (bB (clB (vw σ) a b))) σ) : AW (d + 1) mX3_clash 0 (ax_en mX3_clash [.inr (10, a), .inr (10, b)]) [] σ K := by
  obtain ⟨x, hx, ex⟩ := hLiq a ha
  obtain ⟨y, hy, ey⟩ := hLiq b hb4
  have e1 : hc (σ 10 b 5) (σ 10 a 0) = hb (σ 10 b 5) (σ 10 a 0) := by rw [ex]; exact hc_nI _ (by omega)
  have e2 : hc (σ 10 a 5) (σ 10 b 0) = hb (σ 10 a 5) (σ 10 b 0) := by rw [ey]; exact hc_nI _ (by omega)
  have ek : clB (vw σ) a b = (hb (σ 10 a 5) (σ 10 b 0) || hb (σ 10 b 5) (σ 10 a 0)) := rfl
  show AW _ mX3_clash 0 [_, _] _ _ _
  refine aw_aload_n dX3_clash_0 rfl rfl ?_
  refine aw_getI dX3_clash_1 rfl rfl rfl flX3_114 ?_
  refine aw_aload_n dX3_clash_4 rfl rfl ?_
  refine aw_getI dX3_clash_5 rfl rfl rfl flX3_99 ?_
  refine aw_S2 (M' := mX3_has) dX3_clash_8 rfl lkX3_80 gX3_has (Nat.le_of_ble_eq_true rfl) (sX3_has ?_)
  rw [e1]
  show AW _ mX3_clash 11 _ (_ :: _) _ _
  refine aw_if_neB (tgt := 28) dX3_clash_11 rfl rfl (fun c11 => ?_) (fun c11 => ?_)
  · skip
    refine aw_iconst 1 dX3_clash_28 rfl (by decide) ?_
    refine aw_goto (q := 33) dX3_clash_29 rfl ?_
    refine aw_ret dX3_clash_33 rfl (by decide) ?_
    exact kk_c hK (by rw [ek]; simp [bB, c11]) rfl
  · skip
    refine aw_aload_n dX3_clash_14 rfl rfl ?_
    refine aw_getI dX3_clash_15 rfl rfl rfl flX3_114 ?_
    refine aw_aload_n dX3_clash_18 rfl rfl ?_
    refine aw_getI dX3_clash_19 rfl rfl rfl flX3_99 ?_
    refine aw_S2 (M' := mX3_has) dX3_clash_22 rfl lkX3_80 gX3_has (Nat.le_of_ble_eq_true rfl) (sX3_has ?_)
    rw [e2]
    show AW _ mX3_clash 25 _ (_ :: _) _ _
    refine aw_if_eqB (tgt := 32) dX3_clash_25 rfl rfl (fun c25 => ?_) (fun c25 => ?_)
    · skip
      refine aw_iconst 0 dX3_clash_32 rfl (by decide) ?_
      refine aw_ret dX3_clash_33 rfl (by decide) ?_
      exact kk_c hK (by rw [ek]; simp [bB, c11, c25]) rfl
    · skip
      refine aw_iconst 1 dX3_clash_28 rfl (by decide) ?_
      refine aw_goto (q := 33) dX3_clash_29 rfl ?_
      refine aw_ret dX3_clash_33 rfl (by decide) ?_
      exact kk_c hK (by rw [ek]; simp [bB, c11, c25]) rfl
set_option maxRecDepth 4000 in
theorem sX3_faults {d : Nat} {σ : SS} {K : ax_K} {t c : Nat} (ht : t < 6) (hcoat : 0 ≤ σ 8 t 1) (hLat : ∀ t k, t < 6 → k < 3 → lt9 (σ 9 t k)) (hK : K (some (whyS (vw σ) t c)) σ) : AW (d + 1) mX3_faults 0 (ax_en mX3_faults [.inr (0, 0), .inr (8, t), .inr (10, c)]) [] σ K := by
  have hw : whyC (σ 10 c 2) (σ 10 c 3) (σ 10 c 4) (σ 8 t 1) (σ 9 t) 3 = whyS (vw σ) t c := by
    rw [why_eq hcoat (hLat t 0 ht (by decide)) (hLat t 1 ht (by decide)) (hLat t 2 ht (by decide))]
    unfold whyS whyM whyL
    exact lp_congr 3 (fun k hk x => by simp only [vw33 σ t hk]; rfl)
  show AW _ mX3_faults 0 [_, _, _, _, _] _ _ _
  refine aw_aload_n dX3_faults_0 rfl rfl ?_
  refine aw_getI dX3_faults_1 rfl rfl rfl flX3_105 ?_
  refine aw_aload_n dX3_faults_4 rfl rfl ?_
  refine aw_getI dX3_faults_5 rfl rfl rfl flX3_67 ?_
  refine aw_S2 (M' := mX3_has) dX3_faults_8 rfl lkX3_80 gX3_has (Nat.le_of_ble_eq_true rfl) (sX3_has ?_)
  show AW _ mX3_faults 11 _ (_ :: _) _ _
  refine aw_if_eqB (tgt := 18) dX3_faults_11 rfl rfl (fun c11 => ?_) (fun c11 => ?_)
  · skip
    refine aw_iconst 1 dX3_faults_18 rfl (by decide) ?_
    refine aw_istore_n dX3_faults_19 rfl (by decide) ?_
    show AW _ mX3_faults 20 [_, _, _, _, _] _ _ _
    refine aw_aload_n dX3_faults_20 rfl rfl ?_
    refine aw_getI dX3_faults_21 rfl rfl rfl flX3_108 ?_
    refine aw_aload_n dX3_faults_24 rfl rfl ?_
    refine aw_getR dX3_faults_25 rfl rfl rfl (by decide) flX3_90 ?_
    refine aw_iconst 0 dX3_faults_28 rfl (by decide) ?_
    refine aw_iald dX3_faults_29 rfl rfl (by first | exact vp_in_nI (by omega) (by omega) | exact vp_in_iff.mpr (by decide)) ?_
    try simp only [hci]
    try simp only [ci0]
    refine aw_S2 (M' := mX3_has) dX3_faults_30 rfl lkX3_80 gX3_has (Nat.le_of_ble_eq_true rfl) (sX3_has ?_)
    show AW _ mX3_faults 33 _ (_ :: _) _ _
    refine aw_if_eqB (tgt := 40) dX3_faults_33 rfl rfl (fun c33 => ?_) (fun c33 => ?_)
    · skip
      refine aw_iconst 0 dX3_faults_40 rfl (by decide) ?_
      refine aw_istore dX3_faults_41 rfl (by decide) ?_
      show AW _ mX3_faults 43 [_, _, _, _, _] _ _ _
      refine AW.conv (ax_loop (P := fun i => AW (d + 1) mX3_faults 43 [some (.inr (0, 0)), some (.inr (8, t)), some (.inr (10, c)), some (.inl (whyC (σ 10 c 2) (σ 10 c 3) (σ 10 c 4) (σ 8 t 1) (σ 9 t) i)), some (.inl (nI i))] [] σ K) 3 ?_ ?_ 0 (Nat.zero_le _)) (by rw [nI_0, whyC, lp_0]; simp [c11, c33]) rfl rfl
      · try dsimp only
        refine aw_iload dX3_faults_43 rfl rfl ?_
        refine aw_iconst 3 dX3_faults_45 rfl (by decide) ?_
        refine aw_icmp_ge (tgt := 76) dX3_faults_46 rfl rfl (fun _ => ?_) (fun z => absurd (by decide) z)
        refine aw_iload_n dX3_faults_76 rfl rfl ?_
        refine aw_ret dX3_faults_77 rfl rfl ?_
        exact kk_c hK (by rw [hw]) rfl
      · intro i hi_43 nx_43
        try dsimp only at nx_43 ⊢
        have hci : (nI i).toNatClampNeg = i := nI_clamp (by omega)
        refine aw_iload dX3_faults_43 rfl rfl ?_
        refine aw_iconst 3 dX3_faults_45 rfl (by decide) ?_
        refine aw_icmp_ge (tgt := 76) dX3_faults_46 rfl rfl (fun z => absurd z (nI_ge (b := 3) hi_43 (by omega))) (fun _ => ?_)
        refine aw_aload_n dX3_faults_49 rfl rfl ?_
        refine aw_getI dX3_faults_50 rfl rfl rfl flX3_111 ?_
        refine aw_aload_n dX3_faults_53 rfl rfl ?_
        refine aw_getR dX3_faults_54 rfl rfl rfl (by decide) flX3_90 ?_
        refine aw_iload dX3_faults_57 rfl rfl ?_
        refine aw_iald dX3_faults_59 rfl rfl (by first | exact vp_in_nI (by omega) (by omega) | exact vp_in_iff.mpr (by decide)) ?_
        try simp only [hci]
        try simp only [ci0]
        refine aw_S2 (M' := mX3_has) dX3_faults_60 rfl lkX3_80 gX3_has (Nat.le_of_ble_eq_true rfl) (sX3_has ?_)
        show AW _ mX3_faults 63 _ (_ :: _) _ _
        refine aw_if_eqB (tgt := 70) dX3_faults_63 rfl rfl (fun c63 => ?_) (fun c63 => ?_)
        · skip
          refine aw_iinc dX3_faults_70 rfl rfl (ii_1 _) (by decide) ?_
          show AW _ mX3_faults 73 [_, _, _, _, _] _ _ _
          refine aw_goto (q := 43) dX3_faults_73 rfl ?_
          refine AW.conv nx_43 ?_ rfl rfl
          simp only [nI_succ, whyC_s]
          simp [c63]
        · skip
          refine aw_iload_n dX3_faults_66 rfl rfl ?_
          refine aw_iconst 4 dX3_faults_67 rfl (by decide) ?_
          refine aw_ior dX3_faults_68 rfl ?_
          refine aw_istore_n dX3_faults_69 rfl (by decide) ?_
          show AW _ mX3_faults 70 [_, _, _, _, _] _ _ _
          refine aw_iinc dX3_faults_70 rfl rfl (ii_1 _) (by decide) ?_
          show AW _ mX3_faults 73 [_, _, _, _, _] _ _ _
          refine aw_goto (q := 43) dX3_faults_73 rfl ?_
          refine AW.conv nx_43 ?_ rfl rfl
          simp only [nI_succ, whyC_s]
          simp [c63]
    · skip
      refine aw_iload_n dX3_faults_36 rfl rfl ?_
      refine aw_iconst 2 dX3_faults_37 rfl (by decide) ?_
      refine aw_ior dX3_faults_38 rfl ?_
      refine aw_istore_n dX3_faults_39 rfl (by decide) ?_
      show AW _ mX3_faults 40 [_, _, _, _, _] _ _ _
      refine aw_iconst 0 dX3_faults_40 rfl (by decide) ?_
      refine aw_istore dX3_faults_41 rfl (by decide) ?_
      show AW _ mX3_faults 43 [_, _, _, _, _] _ _ _
      refine AW.conv (ax_loop (P := fun i => AW (d + 1) mX3_faults 43 [some (.inr (0, 0)), some (.inr (8, t)), some (.inr (10, c)), some (.inl (whyC (σ 10 c 2) (σ 10 c 3) (σ 10 c 4) (σ 8 t 1) (σ 9 t) i)), some (.inl (nI i))] [] σ K) 3 ?_ ?_ 0 (Nat.zero_le _)) (by rw [nI_0, whyC, lp_0]; simp [c11, c33]) rfl rfl
      · try dsimp only
        refine aw_iload dX3_faults_43 rfl rfl ?_
        refine aw_iconst 3 dX3_faults_45 rfl (by decide) ?_
        refine aw_icmp_ge (tgt := 76) dX3_faults_46 rfl rfl (fun _ => ?_) (fun z => absurd (by decide) z)
        refine aw_iload_n dX3_faults_76 rfl rfl ?_
        refine aw_ret dX3_faults_77 rfl rfl ?_
        exact kk_c hK (by rw [hw]) rfl
      · intro i hi_43 nx_43
        try dsimp only at nx_43 ⊢
        have hci : (nI i).toNatClampNeg = i := nI_clamp (by omega)
        refine aw_iload dX3_faults_43 rfl rfl ?_
        refine aw_iconst 3 dX3_faults_45 rfl (by decide) ?_
        refine aw_icmp_ge (tgt := 76) dX3_faults_46 rfl rfl (fun z => absurd z (nI_ge (b := 3) hi_43 (by omega))) (fun _ => ?_)
        refine aw_aload_n dX3_faults_49 rfl rfl ?_
        refine aw_getI dX3_faults_50 rfl rfl rfl flX3_111 ?_
        refine aw_aload_n dX3_faults_53 rfl rfl ?_
        refine aw_getR dX3_faults_54 rfl rfl rfl (by decide) flX3_90 ?_
        refine aw_iload dX3_faults_57 rfl rfl ?_
        refine aw_iald dX3_faults_59 rfl rfl (by first | exact vp_in_nI (by omega) (by omega) | exact vp_in_iff.mpr (by decide)) ?_
        try simp only [hci]
        try simp only [ci0]
        refine aw_S2 (M' := mX3_has) dX3_faults_60 rfl lkX3_80 gX3_has (Nat.le_of_ble_eq_true rfl) (sX3_has ?_)
        show AW _ mX3_faults 63 _ (_ :: _) _ _
        refine aw_if_eqB (tgt := 70) dX3_faults_63 rfl rfl (fun c63 => ?_) (fun c63 => ?_)
        · skip
          refine aw_iinc dX3_faults_70 rfl rfl (ii_1 _) (by decide) ?_
          show AW _ mX3_faults 73 [_, _, _, _, _] _ _ _
          refine aw_goto (q := 43) dX3_faults_73 rfl ?_
          refine AW.conv nx_43 ?_ rfl rfl
          simp only [nI_succ, whyC_s]
          simp [c63]
        · skip
          refine aw_iload_n dX3_faults_66 rfl rfl ?_
          refine aw_iconst 4 dX3_faults_67 rfl (by decide) ?_
          refine aw_ior dX3_faults_68 rfl ?_
          refine aw_istore_n dX3_faults_69 rfl (by decide) ?_
          show AW _ mX3_faults 70 [_, _, _, _, _] _ _ _
          refine aw_iinc dX3_faults_70 rfl rfl (ii_1 _) (by decide) ?_
          show AW _ mX3_faults 73 [_, _, _, _, _] _ _ _
          refine aw_goto (q := 43) dX3_faults_73 rfl ?_
          refine AW.conv nx_43 ?_ rfl rfl
          simp only [nI_succ, whyC_s]
          simp [c63]
  · skip
    refine aw_iconst 0 dX3_faults_14 rfl (by decide) ?_
    refine aw_goto (q := 19) dX3_faults_15 rfl ?_
    refine aw_istore_n dX3_faults_19 rfl (by decide) ?_
    show AW _ mX3_faults 20 [_, _, _, _, _] _ _ _
    refine aw_aload_n dX3_faults_20 rfl rfl ?_
    refine aw_getI dX3_faults_21 rfl rfl rfl flX3_108 ?_
    refine aw_aload_n dX3_faults_24 rfl rfl ?_
    refine aw_getR dX3_faults_25 rfl rfl rfl (by decide) flX3_90 ?_
    refine aw_iconst 0 dX3_faults_28 rfl (by decide) ?_
    refine aw_iald dX3_faults_29 rfl rfl (by first | exact vp_in_nI (by omega) (by omega) | exact vp_in_iff.mpr (by decide)) ?_
    try simp only [hci]
    try simp only [ci0]
    refine aw_S2 (M' := mX3_has) dX3_faults_30 rfl lkX3_80 gX3_has (Nat.le_of_ble_eq_true rfl) (sX3_has ?_)
    show AW _ mX3_faults 33 _ (_ :: _) _ _
    refine aw_if_eqB (tgt := 40) dX3_faults_33 rfl rfl (fun c33 => ?_) (fun c33 => ?_)
    · skip
      refine aw_iconst 0 dX3_faults_40 rfl (by decide) ?_
      refine aw_istore dX3_faults_41 rfl (by decide) ?_
      show AW _ mX3_faults 43 [_, _, _, _, _] _ _ _
      refine AW.conv (ax_loop (P := fun i => AW (d + 1) mX3_faults 43 [some (.inr (0, 0)), some (.inr (8, t)), some (.inr (10, c)), some (.inl (whyC (σ 10 c 2) (σ 10 c 3) (σ 10 c 4) (σ 8 t 1) (σ 9 t) i)), some (.inl (nI i))] [] σ K) 3 ?_ ?_ 0 (Nat.zero_le _)) (by rw [nI_0, whyC, lp_0]; simp [c11, c33]) rfl rfl
      · try dsimp only
        refine aw_iload dX3_faults_43 rfl rfl ?_
        refine aw_iconst 3 dX3_faults_45 rfl (by decide) ?_
        refine aw_icmp_ge (tgt := 76) dX3_faults_46 rfl rfl (fun _ => ?_) (fun z => absurd (by decide) z)
        refine aw_iload_n dX3_faults_76 rfl rfl ?_
        refine aw_ret dX3_faults_77 rfl rfl ?_
        exact kk_c hK (by rw [hw]) rfl
      · intro i hi_43 nx_43
        try dsimp only at nx_43 ⊢
        have hci : (nI i).toNatClampNeg = i := nI_clamp (by omega)
        refine aw_iload dX3_faults_43 rfl rfl ?_
        refine aw_iconst 3 dX3_faults_45 rfl (by decide) ?_
        refine aw_icmp_ge (tgt := 76) dX3_faults_46 rfl rfl (fun z => absurd z (nI_ge (b := 3) hi_43 (by omega))) (fun _ => ?_)
        refine aw_aload_n dX3_faults_49 rfl rfl ?_
        refine aw_getI dX3_faults_50 rfl rfl rfl flX3_111 ?_
        refine aw_aload_n dX3_faults_53 rfl rfl ?_
        refine aw_getR dX3_faults_54 rfl rfl rfl (by decide) flX3_90 ?_
        refine aw_iload dX3_faults_57 rfl rfl ?_
        refine aw_iald dX3_faults_59 rfl rfl (by first | exact vp_in_nI (by omega) (by omega) | exact vp_in_iff.mpr (by decide)) ?_
        try simp only [hci]
        try simp only [ci0]
        refine aw_S2 (M' := mX3_has) dX3_faults_60 rfl lkX3_80 gX3_has (Nat.le_of_ble_eq_true rfl) (sX3_has ?_)
        show AW _ mX3_faults 63 _ (_ :: _) _ _
        refine aw_if_eqB (tgt := 70) dX3_faults_63 rfl rfl (fun c63 => ?_) (fun c63 => ?_)
        · skip
          refine aw_iinc dX3_faults_70 rfl rfl (ii_1 _) (by decide) ?_
          show AW _ mX3_faults 73 [_, _, _, _, _] _ _ _
          refine aw_goto (q := 43) dX3_faults_73 rfl ?_
          refine AW.conv nx_43 ?_ rfl rfl
          simp only [nI_succ, whyC_s]
          simp [c63]
        · skip
          refine aw_iload_n dX3_faults_66 rfl rfl ?_
          refine aw_iconst 4 dX3_faults_67 rfl (by decide) ?_
          refine aw_ior dX3_faults_68 rfl ?_
          refine aw_istore_n dX3_faults_69 rfl (by decide) ?_
          show AW _ mX3_faults 70 [_, _, _, _, _] _ _ _
          refine aw_iinc dX3_faults_70 rfl rfl (ii_1 _) (by decide) ?_
          show AW _ mX3_faults 73 [_, _, _, _, _] _ _ _
          refine aw_goto (q := 43) dX3_faults_73 rfl ?_
          refine AW.conv nx_43 ?_ rfl rfl
          simp only [nI_succ, whyC_s]
          simp [c63]
    · skip
      refine aw_iload_n dX3_faults_36 rfl rfl ?_
      refine aw_iconst 2 dX3_faults_37 rfl (by decide) ?_
      refine aw_ior dX3_faults_38 rfl ?_
      refine aw_istore_n dX3_faults_39 rfl (by decide) ?_
      show AW _ mX3_faults 40 [_, _, _, _, _] _ _ _
      refine aw_iconst 0 dX3_faults_40 rfl (by decide) ?_
      refine aw_istore dX3_faults_41 rfl (by decide) ?_
      show AW _ mX3_faults 43 [_, _, _, _, _] _ _ _
      refine AW.conv (ax_loop (P := fun i => AW (d + 1) mX3_faults 43 [some (.inr (0, 0)), some (.inr (8, t)), some (.inr (10, c)), some (.inl (whyC (σ 10 c 2) (σ 10 c 3) (σ 10 c 4) (σ 8 t 1) (σ 9 t) i)), some (.inl (nI i))] [] σ K) 3 ?_ ?_ 0 (Nat.zero_le _)) (by rw [nI_0, whyC, lp_0]; simp [c11, c33]) rfl rfl
      · try dsimp only
        refine aw_iload dX3_faults_43 rfl rfl ?_
        refine aw_iconst 3 dX3_faults_45 rfl (by decide) ?_
        refine aw_icmp_ge (tgt := 76) dX3_faults_46 rfl rfl (fun _ => ?_) (fun z => absurd (by decide) z)
        refine aw_iload_n dX3_faults_76 rfl rfl ?_
        refine aw_ret dX3_faults_77 rfl rfl ?_
        exact kk_c hK (by rw [hw]) rfl
      · intro i hi_43 nx_43
        try dsimp only at nx_43 ⊢
        have hci : (nI i).toNatClampNeg = i := nI_clamp (by omega)
        refine aw_iload dX3_faults_43 rfl rfl ?_
        refine aw_iconst 3 dX3_faults_45 rfl (by decide) ?_
        refine aw_icmp_ge (tgt := 76) dX3_faults_46 rfl rfl (fun z => absurd z (nI_ge (b := 3) hi_43 (by omega))) (fun _ => ?_)
        refine aw_aload_n dX3_faults_49 rfl rfl ?_
        refine aw_getI dX3_faults_50 rfl rfl rfl flX3_111 ?_
        refine aw_aload_n dX3_faults_53 rfl rfl ?_
        refine aw_getR dX3_faults_54 rfl rfl rfl (by decide) flX3_90 ?_
        refine aw_iload dX3_faults_57 rfl rfl ?_
        refine aw_iald dX3_faults_59 rfl rfl (by first | exact vp_in_nI (by omega) (by omega) | exact vp_in_iff.mpr (by decide)) ?_
        try simp only [hci]
        try simp only [ci0]
        refine aw_S2 (M' := mX3_has) dX3_faults_60 rfl lkX3_80 gX3_has (Nat.le_of_ble_eq_true rfl) (sX3_has ?_)
        show AW _ mX3_faults 63 _ (_ :: _) _ _
        refine aw_if_eqB (tgt := 70) dX3_faults_63 rfl rfl (fun c63 => ?_) (fun c63 => ?_)
        · skip
          refine aw_iinc dX3_faults_70 rfl rfl (ii_1 _) (by decide) ?_
          show AW _ mX3_faults 73 [_, _, _, _, _] _ _ _
          refine aw_goto (q := 43) dX3_faults_73 rfl ?_
          refine AW.conv nx_43 ?_ rfl rfl
          simp only [nI_succ, whyC_s]
          simp [c63]
        · skip
          refine aw_iload_n dX3_faults_66 rfl rfl ?_
          refine aw_iconst 4 dX3_faults_67 rfl (by decide) ?_
          refine aw_ior dX3_faults_68 rfl ?_
          refine aw_istore_n dX3_faults_69 rfl (by decide) ?_
          show AW _ mX3_faults 70 [_, _, _, _, _] _ _ _
          refine aw_iinc dX3_faults_70 rfl rfl (ii_1 _) (by decide) ?_
          show AW _ mX3_faults 73 [_, _, _, _, _] _ _ _
          refine aw_goto (q := 43) dX3_faults_73 rfl ?_
          refine AW.conv nx_43 ?_ rfl rfl
          simp only [nI_succ, whyC_s]
          simp [c63]
set_option maxRecDepth 4000 in
theorem sX3_washesNeeded {d : Nat} {σ : SS} {K : ax_K} {t c : Nat} (ht : t < 6) (hc4 : c < 4) (hLat : ∀ t k, t < 6 → k < 3 → lt9 (σ 9 t k)) (hLiq : ∀ c, c < 4 → ∃ j, j < 8 ∧ σ 10 c 0 = nI j) (hK : K (some (wfS (vw σ) t c)) σ) : AW (d + 2) mX3_washesNeeded 0 (ax_en mX3_washesNeeded [.inr (0, 0), .inr (8, t), .inr (10, c)]) [] σ K := by
  have e0 : wfS (vw σ) t c = wf (σ 3 0) (σ 9 t 0) (σ 10 c 0) := by
    unfold wfS
    rw [show 3 * t = 3 * t + 0 by omega, vw33 σ t (by decide)]
    rfl
  show AW _ mX3_washesNeeded 0 [_, _, _, _] _ _ _
  refine aw_aload_n dX3_washesNeeded_0 rfl rfl ?_
  refine aw_getR dX3_washesNeeded_1 rfl rfl rfl (by decide) flX3_90 ?_
  refine aw_iconst 0 dX3_washesNeeded_4 rfl (by decide) ?_
  refine aw_iald dX3_washesNeeded_5 rfl rfl (by first | exact vp_in_nI (by omega) (by omega) | exact vp_in_iff.mpr (by decide)) ?_
  try simp only [ci0]
  refine aw_istore_n dX3_washesNeeded_6 rfl (by decide) ?_
  show AW _ mX3_washesNeeded 7 [_, _, _, _] _ _ _
  refine aw_iload_n dX3_washesNeeded_7 rfl rfl ?_
  refine aw_S1 (M' := mX3_isLiquid) dX3_washesNeeded_8 rfl lkX3_87 gX3_isLiquid (Nat.le_of_ble_eq_true rfl) (sX3_isLiquid ?_)
  show AW _ mX3_washesNeeded 11 _ (_ :: _) _ _
  refine aw_if_eqb (tgt := 31) dX3_washesNeeded_11 rfl rfl (fun c11 => ?_) (fun c11 => ?_)
  · skip
    refine aw_iconst 0 dX3_washesNeeded_31 rfl (by decide) ?_
    refine aw_ret dX3_washesNeeded_32 rfl rfl ?_
    refine kk_c hK ?_ rfl
    rw [e0, wf, if_pos ((hLat t 0 ht (by decide)).resolve_right (fun z => by
      obtain ⟨j, hj, ej⟩ := z
      exact c11 (by rw [ej]; exact ⟨nI_pos' (by omega), nI_le (b := 7) (by omega) (by omega)⟩)))]
  · skip
    obtain ⟨a, ha, ea⟩ := lq_of c11
    obtain ⟨b, hb8, eb⟩ := hLiq c hc4
    refine aw_aload_n dX3_washesNeeded_14 rfl rfl ?_
    refine aw_getR dX3_washesNeeded_15 rfl rfl rfl (by decide) flX3_21 ?_
    refine aw_iload_n dX3_washesNeeded_18 rfl rfl ?_
    refine aw_bipush 8 dX3_washesNeeded_19 rfl (by decide) ?_
    refine aw_imul dX3_washesNeeded_21 rfl ?_
    refine aw_aload_n dX3_washesNeeded_22 rfl rfl ?_
    refine aw_getI dX3_washesNeeded_23 rfl rfl rfl flX3_99 ?_
    refine aw_iadd dX3_washesNeeded_26 rfl ?_
    refine aw_iald dX3_washesNeeded_27 rfl rfl (by rw [ea, eb, ix8r]; exact vp_in_nI (by omega) (by omega)) ?_
    try simp only [ci0]
    refine aw_goto (q := 32) dX3_washesNeeded_28 rfl ?_
    refine aw_ret dX3_washesNeeded_32 rfl rfl ?_
    refine kk_c hK ?_ rfl
    rw [e0, wf, if_neg (by rw [ea]; exact ne9 (by omega)), ea, eb, ix8, ix8r]
end
