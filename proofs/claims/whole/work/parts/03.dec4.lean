theorem dX3_isTank_17 : decode cX3_isTank 17 = .ok (.ireturn, 1) := by decide +kernel
theorem dX3_areTwoTanks_0 : decode cX3_areTwoTanks 0 = .ok (.aload_n 0, 1) := by decide +kernel
theorem dX3_areTwoTanks_1 : decode cX3_areTwoTanks 1 = .ok (.iload_n 1, 1) := by decide +kernel
theorem dX3_areTwoTanks_2 : decode cX3_areTwoTanks 2 = .ok (.invokevirtual 83, 3) := by decide +kernel
theorem dX3_areTwoTanks_5 : decode cX3_areTwoTanks 5 = .ok (.ifCond .eq 20, 3) := by decide +kernel
theorem dX3_areTwoTanks_8 : decode cX3_areTwoTanks 8 = .ok (.aload_n 0, 1) := by decide +kernel
theorem dX3_areTwoTanks_9 : decode cX3_areTwoTanks 9 = .ok (.iload_n 2, 1) := by decide +kernel
theorem dX3_areTwoTanks_10 : decode cX3_areTwoTanks 10 = .ok (.invokevirtual 83, 3) := by decide +kernel
theorem dX3_areTwoTanks_13 : decode cX3_areTwoTanks 13 = .ok (.ifCond .eq 12, 3) := by decide +kernel
theorem dX3_areTwoTanks_16 : decode cX3_areTwoTanks 16 = .ok (.iload_n 1, 1) := by decide +kernel
theorem dX3_areTwoTanks_17 : decode cX3_areTwoTanks 17 = .ok (.iload_n 2, 1) := by decide +kernel
theorem dX3_areTwoTanks_18 : decode cX3_areTwoTanks 18 = .ok (.if_icmp .eq 7, 3) := by decide +kernel
theorem dX3_areTwoTanks_21 : decode cX3_areTwoTanks 21 = .ok (.iconst 1, 1) := by decide +kernel
theorem dX3_areTwoTanks_22 : decode cX3_areTwoTanks 22 = .ok (.goto 4, 3) := by decide +kernel
theorem dX3_areTwoTanks_25 : decode cX3_areTwoTanks 25 = .ok (.iconst 0, 1) := by decide +kernel
theorem dX3_areTwoTanks_26 : decode cX3_areTwoTanks 26 = .ok (.ireturn, 1) := by decide +kernel
theorem dX3_isCargo_0 : decode cX3_isCargo 0 = .ok (.iload_n 1, 1) := by decide +kernel
theorem dX3_isCargo_1 : decode cX3_isCargo 1 = .ok (.ifCond .lt 15, 3) := by decide +kernel
theorem dX3_isCargo_4 : decode cX3_isCargo 4 = .ok (.iload_n 1, 1) := by decide +kernel
theorem dX3_isCargo_5 : decode cX3_isCargo 5 = .ok (.aload_n 0, 1) := by decide +kernel
theorem dX3_isCargo_6 : decode cX3_isCargo 6 = .ok (.getfield 45, 3) := by decide +kernel
theorem dX3_isCargo_9 : decode cX3_isCargo 9 = .ok (.if_icmp .ge 7, 3) := by decide +kernel
theorem dX3_isCargo_12 : decode cX3_isCargo 12 = .ok (.iconst 1, 1) := by decide +kernel
theorem dX3_isCargo_13 : decode cX3_isCargo 13 = .ok (.goto 4, 3) := by decide +kernel
theorem dX3_isCargo_16 : decode cX3_isCargo 16 = .ok (.iconst 0, 1) := by decide +kernel
theorem dX3_isCargo_17 : decode cX3_isCargo 17 = .ok (.ireturn, 1) := by decide +kernel
theorem dX3_isCargoSet_0 : decode cX3_isCargoSet 0 = .ok (.iload_n 1, 1) := by decide +kernel
theorem dX3_isCargoSet_1 : decode cX3_isCargoSet 1 = .ok (.ifCond .lt 17, 3) := by decide +kernel
theorem dX3_isCargoSet_4 : decode cX3_isCargoSet 4 = .ok (.iload_n 1, 1) := by decide +kernel
theorem dX3_isCargoSet_5 : decode cX3_isCargoSet 5 = .ok (.iconst 1, 1) := by decide +kernel
theorem dX3_isCargoSet_6 : decode cX3_isCargoSet 6 = .ok (.aload_n 0, 1) := by decide +kernel
theorem dX3_isCargoSet_7 : decode cX3_isCargoSet 7 = .ok (.getfield 45, 3) := by decide +kernel
theorem dX3_isCargoSet_10 : decode cX3_isCargoSet 10 = .ok (.ishl, 1) := by decide +kernel
theorem dX3_isCargoSet_11 : decode cX3_isCargoSet 11 = .ok (.if_icmp .ge 7, 3) := by decide +kernel
theorem dX3_isCargoSet_14 : decode cX3_isCargoSet 14 = .ok (.iconst 1, 1) := by decide +kernel
theorem dX3_isCargoSet_15 : decode cX3_isCargoSet 15 = .ok (.goto 4, 3) := by decide +kernel
theorem dX3_isCargoSet_18 : decode cX3_isCargoSet 18 = .ok (.iconst 0, 1) := by decide +kernel
theorem dX3_isCargoSet_19 : decode cX3_isCargoSet 19 = .ok (.ireturn, 1) := by decide +kernel
theorem dX3_has_0 : decode cX3_has 0 = .ok (.iload_n 1, 1) := by decide +kernel
theorem dX3_has_1 : decode cX3_has 1 = .ok (.ifCond .lt 15, 3) := by decide +kernel
theorem dX3_has_4 : decode cX3_has 4 = .ok (.iload_n 0, 1) := by decide +kernel
theorem dX3_has_5 : decode cX3_has 5 = .ok (.iload_n 1, 1) := by decide +kernel
theorem dX3_has_6 : decode cX3_has 6 = .ok (.ishr, 1) := by decide +kernel
theorem dX3_has_7 : decode cX3_has 7 = .ok (.iconst 1, 1) := by decide +kernel
theorem dX3_has_8 : decode cX3_has 8 = .ok (.iand, 1) := by decide +kernel
theorem dX3_has_9 : decode cX3_has 9 = .ok (.ifCond .eq 7, 3) := by decide +kernel
theorem dX3_has_12 : decode cX3_has 12 = .ok (.iconst 1, 1) := by decide +kernel
theorem dX3_has_13 : decode cX3_has 13 = .ok (.goto 4, 3) := by decide +kernel
theorem dX3_has_16 : decode cX3_has 16 = .ok (.iconst 0, 1) := by decide +kernel
theorem dX3_has_17 : decode cX3_has 17 = .ok (.ireturn, 1) := by decide +kernel
theorem dX3_faults_0 : decode cX3_faults 0 = .ok (.aload_n 2, 1) := by decide +kernel
theorem dX3_faults_1 : decode cX3_faults 1 = .ok (.getfield 105, 3) := by decide +kernel
theorem dX3_faults_4 : decode cX3_faults 4 = .ok (.aload_n 1, 1) := by decide +kernel
theorem dX3_faults_5 : decode cX3_faults 5 = .ok (.getfield 67, 3) := by decide +kernel
theorem dX3_faults_8 : decode cX3_faults 8 = .ok (.invokestatic 80, 3) := by decide +kernel
theorem dX3_faults_11 : decode cX3_faults 11 = .ok (.ifCond .eq 7, 3) := by decide +kernel
theorem dX3_faults_14 : decode cX3_faults 14 = .ok (.iconst 0, 1) := by decide +kernel
theorem dX3_faults_15 : decode cX3_faults 15 = .ok (.goto 4, 3) := by decide +kernel
theorem dX3_faults_18 : decode cX3_faults 18 = .ok (.iconst 1, 1) := by decide +kernel
theorem dX3_faults_19 : decode cX3_faults 19 = .ok (.istore_n 3, 1) := by decide +kernel
theorem dX3_faults_20 : decode cX3_faults 20 = .ok (.aload_n 2, 1) := by decide +kernel
theorem dX3_faults_21 : decode cX3_faults 21 = .ok (.getfield 108, 3) := by decide +kernel
theorem dX3_faults_24 : decode cX3_faults 24 = .ok (.aload_n 1, 1) := by decide +kernel
theorem dX3_faults_25 : decode cX3_faults 25 = .ok (.getfield 90, 3) := by decide +kernel
theorem dX3_faults_28 : decode cX3_faults 28 = .ok (.iconst 0, 1) := by decide +kernel
theorem dX3_faults_29 : decode cX3_faults 29 = .ok (.iaload, 1) := by decide +kernel
theorem dX3_faults_30 : decode cX3_faults 30 = .ok (.invokestatic 80, 3) := by decide +kernel
theorem dX3_faults_33 : decode cX3_faults 33 = .ok (.ifCond .eq 7, 3) := by decide +kernel
theorem dX3_faults_36 : decode cX3_faults 36 = .ok (.iload_n 3, 1) := by decide +kernel
theorem dX3_faults_37 : decode cX3_faults 37 = .ok (.iconst 2, 1) := by decide +kernel
theorem dX3_faults_38 : decode cX3_faults 38 = .ok (.ior, 1) := by decide +kernel
theorem dX3_faults_39 : decode cX3_faults 39 = .ok (.istore_n 3, 1) := by decide +kernel
theorem dX3_faults_40 : decode cX3_faults 40 = .ok (.iconst 0, 1) := by decide +kernel
theorem dX3_faults_41 : decode cX3_faults 41 = .ok (.istore 4, 2) := by decide +kernel
theorem dX3_faults_43 : decode cX3_faults 43 = .ok (.iload 4, 2) := by decide +kernel
theorem dX3_faults_45 : decode cX3_faults 45 = .ok (.iconst 3, 1) := by decide +kernel
theorem dX3_faults_46 : decode cX3_faults 46 = .ok (.if_icmp .ge 30, 3) := by decide +kernel
theorem dX3_faults_49 : decode cX3_faults 49 = .ok (.aload_n 2, 1) := by decide +kernel
theorem dX3_faults_50 : decode cX3_faults 50 = .ok (.getfield 111, 3) := by decide +kernel
theorem dX3_faults_53 : decode cX3_faults 53 = .ok (.aload_n 1, 1) := by decide +kernel
theorem dX3_faults_54 : decode cX3_faults 54 = .ok (.getfield 90, 3) := by decide +kernel
theorem dX3_faults_57 : decode cX3_faults 57 = .ok (.iload 4, 2) := by decide +kernel
theorem dX3_faults_59 : decode cX3_faults 59 = .ok (.iaload, 1) := by decide +kernel
theorem dX3_faults_60 : decode cX3_faults 60 = .ok (.invokestatic 80, 3) := by decide +kernel
theorem dX3_faults_63 : decode cX3_faults 63 = .ok (.ifCond .eq 7, 3) := by decide +kernel
theorem dX3_faults_66 : decode cX3_faults 66 = .ok (.iload_n 3, 1) := by decide +kernel
theorem dX3_faults_67 : decode cX3_faults 67 = .ok (.iconst 4, 1) := by decide +kernel
theorem dX3_faults_68 : decode cX3_faults 68 = .ok (.ior, 1) := by decide +kernel
theorem dX3_faults_69 : decode cX3_faults 69 = .ok (.istore_n 3, 1) := by decide +kernel
theorem dX3_faults_70 : decode cX3_faults 70 = .ok (.iinc 4 1, 3) := by decide +kernel
theorem dX3_faults_73 : decode cX3_faults 73 = .ok (.goto (-30), 3) := by decide +kernel
theorem dX3_faults_76 : decode cX3_faults 76 = .ok (.iload_n 3, 1) := by decide +kernel
theorem dX3_faults_77 : decode cX3_faults 77 = .ok (.ireturn, 1) := by decide +kernel
theorem dX3_washesNeeded_0 : decode cX3_washesNeeded 0 = .ok (.aload_n 1, 1) := by decide +kernel
theorem dX3_washesNeeded_1 : decode cX3_washesNeeded 1 = .ok (.getfield 90, 3) := by decide +kernel
theorem dX3_washesNeeded_4 : decode cX3_washesNeeded 4 = .ok (.iconst 0, 1) := by decide +kernel
theorem dX3_washesNeeded_5 : decode cX3_washesNeeded 5 = .ok (.iaload, 1) := by decide +kernel
theorem dX3_washesNeeded_6 : decode cX3_washesNeeded 6 = .ok (.istore_n 3, 1) := by decide +kernel
theorem dX3_washesNeeded_7 : decode cX3_washesNeeded 7 = .ok (.iload_n 3, 1) := by decide +kernel
theorem dX3_washesNeeded_8 : decode cX3_washesNeeded 8 = .ok (.invokestatic 87, 3) := by decide +kernel
theorem dX3_washesNeeded_11 : decode cX3_washesNeeded 11 = .ok (.ifCond .eq 20, 3) := by decide +kernel
theorem dX3_washesNeeded_14 : decode cX3_washesNeeded 14 = .ok (.aload_n 0, 1) := by decide +kernel
theorem dX3_washesNeeded_15 : decode cX3_washesNeeded 15 = .ok (.getfield 21, 3) := by decide +kernel
theorem dX3_washesNeeded_18 : decode cX3_washesNeeded 18 = .ok (.iload_n 3, 1) := by decide +kernel
theorem dX3_washesNeeded_19 : decode cX3_washesNeeded 19 = .ok (.bipush 8, 2) := by decide +kernel
theorem dX3_washesNeeded_21 : decode cX3_washesNeeded 21 = .ok (.imul, 1) := by decide +kernel
theorem dX3_washesNeeded_22 : decode cX3_washesNeeded 22 = .ok (.aload_n 2, 1) := by decide +kernel
theorem dX3_washesNeeded_23 : decode cX3_washesNeeded 23 = .ok (.getfield 99, 3) := by decide +kernel
theorem dX3_washesNeeded_26 : decode cX3_washesNeeded 26 = .ok (.iadd, 1) := by decide +kernel
theorem dX3_washesNeeded_27 : decode cX3_washesNeeded 27 = .ok (.iaload, 1) := by decide +kernel
theorem dX3_washesNeeded_28 : decode cX3_washesNeeded 28 = .ok (.goto 4, 3) := by decide +kernel
theorem dX3_washesNeeded_31 : decode cX3_washesNeeded 31 = .ok (.iconst 0, 1) := by decide +kernel
theorem dX3_washesNeeded_32 : decode cX3_washesNeeded 32 = .ok (.ireturn, 1) := by decide +kernel
theorem dX3_clash_0 : decode cX3_clash 0 = .ok (.aload_n 1, 1) := by decide +kernel
theorem dX3_clash_1 : decode cX3_clash 1 = .ok (.getfield 114, 3) := by decide +kernel
theorem dX3_clash_4 : decode cX3_clash 4 = .ok (.aload_n 0, 1) := by decide +kernel
theorem dX3_clash_5 : decode cX3_clash 5 = .ok (.getfield 99, 3) := by decide +kernel
theorem dX3_clash_8 : decode cX3_clash 8 = .ok (.invokestatic 80, 3) := by decide +kernel
theorem dX3_clash_11 : decode cX3_clash 11 = .ok (.ifCond .ne 17, 3) := by decide +kernel
theorem dX3_clash_14 : decode cX3_clash 14 = .ok (.aload_n 0, 1) := by decide +kernel
theorem dX3_clash_15 : decode cX3_clash 15 = .ok (.getfield 114, 3) := by decide +kernel
theorem dX3_clash_18 : decode cX3_clash 18 = .ok (.aload_n 1, 1) := by decide +kernel
theorem dX3_clash_19 : decode cX3_clash 19 = .ok (.getfield 99, 3) := by decide +kernel
theorem dX3_clash_22 : decode cX3_clash 22 = .ok (.invokestatic 80, 3) := by decide +kernel
theorem dX3_clash_25 : decode cX3_clash 25 = .ok (.ifCond .eq 7, 3) := by decide +kernel
theorem dX3_clash_28 : decode cX3_clash 28 = .ok (.iconst 1, 1) := by decide +kernel
theorem dX3_clash_29 : decode cX3_clash 29 = .ok (.goto 4, 3) := by decide +kernel
theorem dX3_clash_32 : decode cX3_clash 32 = .ok (.iconst 0, 1) := by decide +kernel
theorem dX3_clash_33 : decode cX3_clash 33 = .ok (.ireturn, 1) := by decide +kernel
theorem dX3_tanksThatSuit_0 : decode cX3_tanksThatSuit 0 = .ok (.iconst 0, 1) := by decide +kernel
theorem dX3_tanksThatSuit_1 : decode cX3_tanksThatSuit 1 = .ok (.istore_n 2, 1) := by decide +kernel
theorem dX3_tanksThatSuit_2 : decode cX3_tanksThatSuit 2 = .ok (.iconst 0, 1) := by decide +kernel
theorem dX3_tanksThatSuit_3 : decode cX3_tanksThatSuit 3 = .ok (.istore_n 3, 1) := by decide +kernel
theorem dX3_tanksThatSuit_4 : decode cX3_tanksThatSuit 4 = .ok (.iload_n 3, 1) := by decide +kernel
theorem dX3_tanksThatSuit_5 : decode cX3_tanksThatSuit 5 = .ok (.aload_n 0, 1) := by decide +kernel
theorem dX3_tanksThatSuit_6 : decode cX3_tanksThatSuit 6 = .ok (.getfield 41, 3) := by decide +kernel
theorem dX3_tanksThatSuit_9 : decode cX3_tanksThatSuit 9 = .ok (.if_icmp .ge 29, 3) := by decide +kernel
theorem dX3_tanksThatSuit_12 : decode cX3_tanksThatSuit 12 = .ok (.aload_n 0, 1) := by decide +kernel
theorem dX3_tanksThatSuit_13 : decode cX3_tanksThatSuit 13 = .ok (.aload_n 0, 1) := by decide +kernel
theorem dX3_tanksThatSuit_14 : decode cX3_tanksThatSuit 14 = .ok (.getfield 11, 3) := by decide +kernel
theorem dX3_tanksThatSuit_17 : decode cX3_tanksThatSuit 17 = .ok (.iload_n 3, 1) := by decide +kernel
theorem dX3_tanksThatSuit_18 : decode cX3_tanksThatSuit 18 = .ok (.aaload, 1) := by decide +kernel
theorem dX3_tanksThatSuit_19 : decode cX3_tanksThatSuit 19 = .ok (.aload_n 1, 1) := by decide +kernel
theorem dX3_tanksThatSuit_20 : decode cX3_tanksThatSuit 20 = .ok (.invokevirtual 141, 3) := by decide +kernel
theorem dX3_tanksThatSuit_23 : decode cX3_tanksThatSuit 23 = .ok (.ifCond .ne 9, 3) := by decide +kernel
theorem dX3_tanksThatSuit_26 : decode cX3_tanksThatSuit 26 = .ok (.iload_n 2, 1) := by decide +kernel
theorem dX3_tanksThatSuit_27 : decode cX3_tanksThatSuit 27 = .ok (.iconst 1, 1) := by decide +kernel
theorem dX3_tanksThatSuit_28 : decode cX3_tanksThatSuit 28 = .ok (.iload_n 3, 1) := by decide +kernel
theorem dX3_tanksThatSuit_29 : decode cX3_tanksThatSuit 29 = .ok (.ishl, 1) := by decide +kernel
theorem dX3_tanksThatSuit_30 : decode cX3_tanksThatSuit 30 = .ok (.ior, 1) := by decide +kernel
theorem dX3_tanksThatSuit_31 : decode cX3_tanksThatSuit 31 = .ok (.istore_n 2, 1) := by decide +kernel
theorem dX3_tanksThatSuit_32 : decode cX3_tanksThatSuit 32 = .ok (.iinc 3 1, 3) := by decide +kernel
theorem dX3_tanksThatSuit_35 : decode cX3_tanksThatSuit 35 = .ok (.goto (-31), 3) := by decide +kernel
theorem dX3_tanksThatSuit_38 : decode cX3_tanksThatSuit 38 = .ok (.iload_n 2, 1) := by decide +kernel
theorem dX3_tanksThatSuit_39 : decode cX3_tanksThatSuit 39 = .ok (.ireturn, 1) := by decide +kernel
theorem dX3_cargoesThatClash_0 : decode cX3_cargoesThatClash 0 = .ok (.iconst 0, 1) := by decide +kernel
theorem dX3_cargoesThatClash_1 : decode cX3_cargoesThatClash 1 = .ok (.istore_n 2, 1) := by decide +kernel
theorem dX3_cargoesThatClash_2 : decode cX3_cargoesThatClash 2 = .ok (.iconst 0, 1) := by decide +kernel
theorem dX3_cargoesThatClash_3 : decode cX3_cargoesThatClash 3 = .ok (.istore_n 3, 1) := by decide +kernel
theorem dX3_cargoesThatClash_4 : decode cX3_cargoesThatClash 4 = .ok (.iload_n 3, 1) := by decide +kernel
theorem dX3_cargoesThatClash_5 : decode cX3_cargoesThatClash 5 = .ok (.aload_n 0, 1) := by decide +kernel
theorem dX3_cargoesThatClash_6 : decode cX3_cargoesThatClash 6 = .ok (.getfield 45, 3) := by decide +kernel
theorem dX3_cargoesThatClash_9 : decode cX3_cargoesThatClash 9 = .ok (.if_icmp .ge 28, 3) := by decide +kernel
theorem dX3_cargoesThatClash_12 : decode cX3_cargoesThatClash 12 = .ok (.aload_n 1, 1) := by decide +kernel
theorem dX3_cargoesThatClash_13 : decode cX3_cargoesThatClash 13 = .ok (.aload_n 0, 1) := by decide +kernel
theorem dX3_cargoesThatClash_14 : decode cX3_cargoesThatClash 14 = .ok (.getfield 17, 3) := by decide +kernel
theorem dX3_cargoesThatClash_17 : decode cX3_cargoesThatClash 17 = .ok (.iload_n 3, 1) := by decide +kernel
theorem dX3_cargoesThatClash_18 : decode cX3_cargoesThatClash 18 = .ok (.aaload, 1) := by decide +kernel
theorem dX3_cargoesThatClash_19 : decode cX3_cargoesThatClash 19 = .ok (.invokestatic 220, 3) := by decide +kernel
theorem dX3_cargoesThatClash_22 : decode cX3_cargoesThatClash 22 = .ok (.ifCond .eq 9, 3) := by decide +kernel
theorem dX3_cargoesThatClash_25 : decode cX3_cargoesThatClash 25 = .ok (.iload_n 2, 1) := by decide +kernel
theorem dX3_cargoesThatClash_26 : decode cX3_cargoesThatClash 26 = .ok (.iconst 1, 1) := by decide +kernel
theorem dX3_cargoesThatClash_27 : decode cX3_cargoesThatClash 27 = .ok (.iload_n 3, 1) := by decide +kernel
theorem dX3_cargoesThatClash_28 : decode cX3_cargoesThatClash 28 = .ok (.ishl, 1) := by decide +kernel
theorem dX3_cargoesThatClash_29 : decode cX3_cargoesThatClash 29 = .ok (.ior, 1) := by decide +kernel
theorem dX3_cargoesThatClash_30 : decode cX3_cargoesThatClash 30 = .ok (.istore_n 2, 1) := by decide +kernel
theorem dX3_cargoesThatClash_31 : decode cX3_cargoesThatClash 31 = .ok (.iinc 3 1, 3) := by decide +kernel
theorem dX3_cargoesThatClash_34 : decode cX3_cargoesThatClash 34 = .ok (.goto (-30), 3) := by decide +kernel
theorem dX3_cargoesThatClash_37 : decode cX3_cargoesThatClash 37 = .ok (.iload_n 2, 1) := by decide +kernel
theorem dX3_cargoesThatClash_38 : decode cX3_cargoesThatClash 38 = .ok (.ireturn, 1) := by decide +kernel
theorem dX3_tanksThatHold_0 : decode cX3_tanksThatHold 0 = .ok (.iconst 0, 1) := by decide +kernel
theorem dX3_tanksThatHold_1 : decode cX3_tanksThatHold 1 = .ok (.istore_n 2, 1) := by decide +kernel
theorem dX3_tanksThatHold_2 : decode cX3_tanksThatHold 2 = .ok (.iconst 0, 1) := by decide +kernel
theorem dX3_tanksThatHold_3 : decode cX3_tanksThatHold 3 = .ok (.istore_n 3, 1) := by decide +kernel
theorem dX3_tanksThatHold_4 : decode cX3_tanksThatHold 4 = .ok (.iload_n 3, 1) := by decide +kernel
theorem dX3_tanksThatHold_5 : decode cX3_tanksThatHold 5 = .ok (.aload_n 0, 1) := by decide +kernel
theorem dX3_tanksThatHold_6 : decode cX3_tanksThatHold 6 = .ok (.getfield 41, 3) := by decide +kernel
theorem dX3_tanksThatHold_9 : decode cX3_tanksThatHold 9 = .ok (.if_icmp .ge 25, 3) := by decide +kernel
theorem dX3_tanksThatHold_12 : decode cX3_tanksThatHold 12 = .ok (.aload_n 0, 1) := by decide +kernel
theorem dX3_tanksThatHold_13 : decode cX3_tanksThatHold 13 = .ok (.getfield 11, 3) := by decide +kernel
theorem dX3_tanksThatHold_16 : decode cX3_tanksThatHold 16 = .ok (.iload_n 3, 1) := by decide +kernel
theorem dX3_tanksThatHold_17 : decode cX3_tanksThatHold 17 = .ok (.aaload, 1) := by decide +kernel
theorem dX3_tanksThatHold_18 : decode cX3_tanksThatHold 18 = .ok (.getfield 124, 3) := by decide +kernel
theorem dX3_tanksThatHold_21 : decode cX3_tanksThatHold 21 = .ok (.iload_n 1, 1) := by decide +kernel
theorem dX3_tanksThatHold_22 : decode cX3_tanksThatHold 22 = .ok (.if_icmp .ne 6, 3) := by decide +kernel
theorem dX3_tanksThatHold_25 : decode cX3_tanksThatHold 25 = .ok (.iinc 2 1, 3) := by decide +kernel
theorem dX3_tanksThatHold_28 : decode cX3_tanksThatHold 28 = .ok (.iinc 3 1, 3) := by decide +kernel
theorem dX3_tanksThatHold_31 : decode cX3_tanksThatHold 31 = .ok (.goto (-27), 3) := by decide +kernel
theorem dX3_tanksThatHold_34 : decode cX3_tanksThatHold 34 = .ok (.iload_n 2, 1) := by decide +kernel
theorem dX3_tanksThatHold_35 : decode cX3_tanksThatHold 35 = .ok (.ireturn, 1) := by decide +kernel
theorem dX3_tanksInUse_0 : decode cX3_tanksInUse 0 = .ok (.aload_n 0, 1) := by decide +kernel
theorem dX3_tanksInUse_1 : decode cX3_tanksInUse 1 = .ok (.getfield 41, 3) := by decide +kernel
theorem dX3_tanksInUse_4 : decode cX3_tanksInUse 4 = .ok (.aload_n 0, 1) := by decide +kernel
theorem dX3_tanksInUse_5 : decode cX3_tanksInUse 5 = .ok (.bipush (-9), 2) := by decide +kernel
theorem dX3_tanksInUse_7 : decode cX3_tanksInUse 7 = .ok (.invokevirtual 117, 3) := by decide +kernel
theorem dX3_tanksInUse_10 : decode cX3_tanksInUse 10 = .ok (.isub, 1) := by decide +kernel
theorem dX3_tanksInUse_11 : decode cX3_tanksInUse 11 = .ok (.ireturn, 1) := by decide +kernel
theorem dX3_heldList_0 : decode cX3_heldList 0 = .ok (.iconst 0, 1) := by decide +kernel
theorem dX3_heldList_1 : decode cX3_heldList 1 = .ok (.istore_n 1, 1) := by decide +kernel
theorem dX3_heldList_2 : decode cX3_heldList 2 = .ok (.iconst 0, 1) := by decide +kernel
theorem dX3_heldList_3 : decode cX3_heldList 3 = .ok (.istore_n 2, 1) := by decide +kernel
theorem dX3_heldList_4 : decode cX3_heldList 4 = .ok (.iload_n 2, 1) := by decide +kernel
theorem dX3_heldList_5 : decode cX3_heldList 5 = .ok (.aload_n 0, 1) := by decide +kernel
theorem dX3_heldList_6 : decode cX3_heldList 6 = .ok (.getfield 41, 3) := by decide +kernel
theorem dX3_heldList_9 : decode cX3_heldList 9 = .ok (.if_icmp .ge 31, 3) := by decide +kernel
theorem dX3_heldList_12 : decode cX3_heldList 12 = .ok (.iload_n 1, 1) := by decide +kernel
theorem dX3_heldList_13 : decode cX3_heldList 13 = .ok (.aload_n 0, 1) := by decide +kernel
theorem dX3_heldList_14 : decode cX3_heldList 14 = .ok (.getfield 11, 3) := by decide +kernel
theorem dX3_heldList_17 : decode cX3_heldList 17 = .ok (.iload_n 2, 1) := by decide +kernel
theorem dX3_heldList_18 : decode cX3_heldList 18 = .ok (.aaload, 1) := by decide +kernel
theorem dX3_heldList_19 : decode cX3_heldList 19 = .ok (.getfield 127, 3) := by decide +kernel
theorem dX3_heldList_22 : decode cX3_heldList 22 = .ok (.aload_n 0, 1) := by decide +kernel
theorem dX3_heldList_23 : decode cX3_heldList 23 = .ok (.getfield 11, 3) := by decide +kernel
theorem dX3_heldList_26 : decode cX3_heldList 26 = .ok (.iload_n 2, 1) := by decide +kernel
theorem dX3_heldList_27 : decode cX3_heldList 27 = .ok (.aaload, 1) := by decide +kernel
theorem dX3_heldList_28 : decode cX3_heldList 28 = .ok (.getfield 70, 3) := by decide +kernel
theorem dX3_heldList_31 : decode cX3_heldList 31 = .ok (.imul, 1) := by decide +kernel
theorem dX3_heldList_32 : decode cX3_heldList 32 = .ok (.iadd, 1) := by decide +kernel
theorem dX3_heldList_33 : decode cX3_heldList 33 = .ok (.istore_n 1, 1) := by decide +kernel
theorem dX3_heldList_34 : decode cX3_heldList 34 = .ok (.iinc 2 1, 3) := by decide +kernel
theorem dX3_heldList_37 : decode cX3_heldList 37 = .ok (.goto (-33), 3) := by decide +kernel
theorem dX3_heldList_40 : decode cX3_heldList 40 = .ok (.iload_n 1, 1) := by decide +kernel
theorem dX3_heldList_41 : decode cX3_heldList 41 = .ok (.ireturn, 1) := by decide +kernel
theorem dX3_mayComeInto_0 : decode cX3_mayComeInto 0 = .ok (.aload_n 1, 1) := by decide +kernel
theorem dX3_mayComeInto_1 : decode cX3_mayComeInto 1 = .ok (.getfield 124, 3) := by decide +kernel
theorem dX3_mayComeInto_4 : decode cX3_mayComeInto 4 = .ok (.bipush (-9), 2) := by decide +kernel
theorem dX3_mayComeInto_6 : decode cX3_mayComeInto 6 = .ok (.if_icmp .ne 12, 3) := by decide +kernel
theorem dX3_mayComeInto_9 : decode cX3_mayComeInto 9 = .ok (.aload_n 0, 1) := by decide +kernel
theorem dX3_mayComeInto_10 : decode cX3_mayComeInto 10 = .ok (.aload_n 1, 1) := by decide +kernel
theorem dX3_mayComeInto_11 : decode cX3_mayComeInto 11 = .ok (.aload_n 2, 1) := by decide +kernel
theorem dX3_mayComeInto_12 : decode cX3_mayComeInto 12 = .ok (.invokevirtual 141, 3) := by decide +kernel
theorem dX3_mayComeInto_15 : decode cX3_mayComeInto 15 = .ok (.ifCond .eq 5, 3) := by decide +kernel
theorem dX3_mayComeInto_18 : decode cX3_mayComeInto 18 = .ok (.iconst 0, 1) := by decide +kernel
theorem dX3_mayComeInto_19 : decode cX3_mayComeInto 19 = .ok (.ireturn, 1) := by decide +kernel
theorem dX3_mayComeInto_20 : decode cX3_mayComeInto 20 = .ok (.iconst 0, 1) := by decide +kernel
theorem dX3_mayComeInto_21 : decode cX3_mayComeInto 21 = .ok (.istore_n 3, 1) := by decide +kernel
theorem dX3_mayComeInto_22 : decode cX3_mayComeInto 22 = .ok (.iload_n 3, 1) := by decide +kernel
theorem dX3_mayComeInto_23 : decode cX3_mayComeInto 23 = .ok (.aload_n 0, 1) := by decide +kernel
theorem dX3_mayComeInto_24 : decode cX3_mayComeInto 24 = .ok (.getfield 41, 3) := by decide +kernel
theorem dX3_mayComeInto_27 : decode cX3_mayComeInto 27 = .ok (.if_icmp .ge 56, 3) := by decide +kernel
theorem dX3_mayComeInto_30 : decode cX3_mayComeInto 30 = .ok (.aload_n 0, 1) := by decide +kernel
theorem dX3_mayComeInto_31 : decode cX3_mayComeInto 31 = .ok (.getfield 11, 3) := by decide +kernel
theorem dX3_mayComeInto_34 : decode cX3_mayComeInto 34 = .ok (.iload_n 3, 1) := by decide +kernel
theorem dX3_mayComeInto_35 : decode cX3_mayComeInto 35 = .ok (.aaload, 1) := by decide +kernel
theorem dX3_mayComeInto_36 : decode cX3_mayComeInto 36 = .ok (.getfield 124, 3) := by decide +kernel
theorem dX3_mayComeInto_39 : decode cX3_mayComeInto 39 = .ok (.istore 4, 2) := by decide +kernel
theorem dX3_mayComeInto_41 : decode cX3_mayComeInto 41 = .ok (.aload_n 1, 1) := by decide +kernel
theorem dX3_mayComeInto_42 : decode cX3_mayComeInto 42 = .ok (.getfield 77, 3) := by decide +kernel
theorem dX3_mayComeInto_45 : decode cX3_mayComeInto 45 = .ok (.iload_n 3, 1) := by decide +kernel
theorem dX3_mayComeInto_46 : decode cX3_mayComeInto 46 = .ok (.invokestatic 80, 3) := by decide +kernel
theorem dX3_mayComeInto_49 : decode cX3_mayComeInto 49 = .ok (.ifCond .eq 28, 3) := by decide +kernel
theorem dX3_mayComeInto_52 : decode cX3_mayComeInto 52 = .ok (.aload_n 0, 1) := by decide +kernel
theorem dX3_mayComeInto_53 : decode cX3_mayComeInto 53 = .ok (.iload 4, 2) := by decide +kernel
theorem dX3_mayComeInto_55 : decode cX3_mayComeInto 55 = .ok (.invokevirtual 121, 3) := by decide +kernel
theorem dX3_mayComeInto_58 : decode cX3_mayComeInto 58 = .ok (.ifCond .eq 19, 3) := by decide +kernel
theorem dX3_mayComeInto_61 : decode cX3_mayComeInto 61 = .ok (.aload_n 2, 1) := by decide +kernel
theorem dX3_mayComeInto_62 : decode cX3_mayComeInto 62 = .ok (.aload_n 0, 1) := by decide +kernel
theorem dX3_mayComeInto_63 : decode cX3_mayComeInto 63 = .ok (.getfield 17, 3) := by decide +kernel
theorem dX3_mayComeInto_66 : decode cX3_mayComeInto 66 = .ok (.iload 4, 2) := by decide +kernel
theorem dX3_mayComeInto_68 : decode cX3_mayComeInto 68 = .ok (.aaload, 1) := by decide +kernel
theorem dX3_mayComeInto_69 : decode cX3_mayComeInto 69 = .ok (.invokestatic 220, 3) := by decide +kernel
theorem dX3_mayComeInto_72 : decode cX3_mayComeInto 72 = .ok (.ifCond .eq 5, 3) := by decide +kernel
theorem dX3_mayComeInto_75 : decode cX3_mayComeInto 75 = .ok (.iconst 0, 1) := by decide +kernel
theorem dX3_mayComeInto_76 : decode cX3_mayComeInto 76 = .ok (.ireturn, 1) := by decide +kernel
theorem dX3_mayComeInto_77 : decode cX3_mayComeInto 77 = .ok (.iinc 3 1, 3) := by decide +kernel
theorem dX3_mayComeInto_80 : decode cX3_mayComeInto 80 = .ok (.goto (-58), 3) := by decide +kernel
theorem dX3_mayComeInto_83 : decode cX3_mayComeInto 83 = .ok (.iconst 1, 1) := by decide +kernel
theorem dX3_mayComeInto_84 : decode cX3_mayComeInto 84 = .ok (.ireturn, 1) := by decide +kernel
theorem dX3_toldGoesBeyond_0 : decode cX3_toldGoesBeyond 0 = .ok (.iconst 0, 1) := by decide +kernel
theorem dX3_toldGoesBeyond_1 : decode cX3_toldGoesBeyond 1 = .ok (.istore_n 2, 1) := by decide +kernel
theorem dX3_toldGoesBeyond_2 : decode cX3_toldGoesBeyond 2 = .ok (.iload_n 2, 1) := by decide +kernel
theorem dX3_toldGoesBeyond_3 : decode cX3_toldGoesBeyond 3 = .ok (.aload_n 0, 1) := by decide +kernel
theorem dX3_toldGoesBeyond_4 : decode cX3_toldGoesBeyond 4 = .ok (.getfield 41, 3) := by decide +kernel
theorem dX3_toldGoesBeyond_7 : decode cX3_toldGoesBeyond 7 = .ok (.if_icmp .ge 35, 3) := by decide +kernel
theorem dX3_toldGoesBeyond_10 : decode cX3_toldGoesBeyond 10 = .ok (.aload_n 0, 1) := by decide +kernel
theorem dX3_toldGoesBeyond_11 : decode cX3_toldGoesBeyond 11 = .ok (.getfield 32, 3) := by decide +kernel
theorem dX3_toldGoesBeyond_14 : decode cX3_toldGoesBeyond 14 = .ok (.iload_n 2, 1) := by decide +kernel
theorem dX3_toldGoesBeyond_15 : decode cX3_toldGoesBeyond 15 = .ok (.iaload, 1) := by decide +kernel
theorem dX3_toldGoesBeyond_16 : decode cX3_toldGoesBeyond 16 = .ok (.bipush (-9), 2) := by decide +kernel
theorem dX3_toldGoesBeyond_18 : decode cX3_toldGoesBeyond 18 = .ok (.if_icmp .eq 18, 3) := by decide +kernel
theorem dX3_toldGoesBeyond_21 : decode cX3_toldGoesBeyond 21 = .ok (.iload_n 1, 1) := by decide +kernel
theorem dX3_toldGoesBeyond_22 : decode cX3_toldGoesBeyond 22 = .ok (.aload_n 0, 1) := by decide +kernel
theorem dX3_toldGoesBeyond_23 : decode cX3_toldGoesBeyond 23 = .ok (.getfield 32, 3) := by decide +kernel
theorem dX3_toldGoesBeyond_26 : decode cX3_toldGoesBeyond 26 = .ok (.iload_n 2, 1) := by decide +kernel
theorem dX3_toldGoesBeyond_27 : decode cX3_toldGoesBeyond 27 = .ok (.iaload, 1) := by decide +kernel
theorem dX3_toldGoesBeyond_28 : decode cX3_toldGoesBeyond 28 = .ok (.invokestatic 80, 3) := by decide +kernel
theorem dX3_toldGoesBeyond_31 : decode cX3_toldGoesBeyond 31 = .ok (.ifCond .ne 5, 3) := by decide +kernel
theorem dX3_toldGoesBeyond_34 : decode cX3_toldGoesBeyond 34 = .ok (.iconst 1, 1) := by decide +kernel
theorem dX3_toldGoesBeyond_35 : decode cX3_toldGoesBeyond 35 = .ok (.ireturn, 1) := by decide +kernel
theorem dX3_toldGoesBeyond_36 : decode cX3_toldGoesBeyond 36 = .ok (.iinc 2 1, 3) := by decide +kernel
theorem dX3_toldGoesBeyond_39 : decode cX3_toldGoesBeyond 39 = .ok (.goto (-37), 3) := by decide +kernel
theorem dX3_toldGoesBeyond_42 : decode cX3_toldGoesBeyond 42 = .ok (.iconst 0, 1) := by decide +kernel
theorem dX3_toldGoesBeyond_43 : decode cX3_toldGoesBeyond 43 = .ok (.ireturn, 1) := by decide +kernel
theorem dX3_toldDoesNotSuit_0 : decode cX3_toldDoesNotSuit 0 = .ok (.iconst 0, 1) := by decide +kernel
theorem dX3_toldDoesNotSuit_1 : decode cX3_toldDoesNotSuit 1 = .ok (.istore_n 1, 1) := by decide +kernel
theorem dX3_toldDoesNotSuit_2 : decode cX3_toldDoesNotSuit 2 = .ok (.iload_n 1, 1) := by decide +kernel
theorem dX3_toldDoesNotSuit_3 : decode cX3_toldDoesNotSuit 3 = .ok (.aload_n 0, 1) := by decide +kernel
theorem dX3_toldDoesNotSuit_4 : decode cX3_toldDoesNotSuit 4 = .ok (.getfield 41, 3) := by decide +kernel
theorem dX3_toldDoesNotSuit_7 : decode cX3_toldDoesNotSuit 7 = .ok (.if_icmp .ge 45, 3) := by decide +kernel
theorem dX3_toldDoesNotSuit_10 : decode cX3_toldDoesNotSuit 10 = .ok (.aload_n 0, 1) := by decide +kernel
theorem dX3_toldDoesNotSuit_11 : decode cX3_toldDoesNotSuit 11 = .ok (.getfield 32, 3) := by decide +kernel
theorem dX3_toldDoesNotSuit_14 : decode cX3_toldDoesNotSuit 14 = .ok (.iload_n 1, 1) := by decide +kernel
theorem dX3_toldDoesNotSuit_15 : decode cX3_toldDoesNotSuit 15 = .ok (.iaload, 1) := by decide +kernel
theorem dX3_toldDoesNotSuit_16 : decode cX3_toldDoesNotSuit 16 = .ok (.istore_n 2, 1) := by decide +kernel
theorem dX3_toldDoesNotSuit_17 : decode cX3_toldDoesNotSuit 17 = .ok (.aload_n 0, 1) := by decide +kernel
theorem dX3_toldDoesNotSuit_18 : decode cX3_toldDoesNotSuit 18 = .ok (.iload_n 2, 1) := by decide +kernel
theorem dX3_toldDoesNotSuit_19 : decode cX3_toldDoesNotSuit 19 = .ok (.invokevirtual 121, 3) := by decide +kernel
theorem dX3_toldDoesNotSuit_22 : decode cX3_toldDoesNotSuit 22 = .ok (.ifCond .eq 24, 3) := by decide +kernel
theorem dX3_toldDoesNotSuit_25 : decode cX3_toldDoesNotSuit 25 = .ok (.aload_n 0, 1) := by decide +kernel
theorem dX3_toldDoesNotSuit_26 : decode cX3_toldDoesNotSuit 26 = .ok (.aload_n 0, 1) := by decide +kernel
theorem dX3_toldDoesNotSuit_27 : decode cX3_toldDoesNotSuit 27 = .ok (.getfield 11, 3) := by decide +kernel
theorem dX3_toldDoesNotSuit_30 : decode cX3_toldDoesNotSuit 30 = .ok (.iload_n 1, 1) := by decide +kernel
theorem dX3_toldDoesNotSuit_31 : decode cX3_toldDoesNotSuit 31 = .ok (.aaload, 1) := by decide +kernel
theorem dX3_toldDoesNotSuit_32 : decode cX3_toldDoesNotSuit 32 = .ok (.aload_n 0, 1) := by decide +kernel
theorem dX3_toldDoesNotSuit_33 : decode cX3_toldDoesNotSuit 33 = .ok (.getfield 17, 3) := by decide +kernel
theorem dX3_toldDoesNotSuit_36 : decode cX3_toldDoesNotSuit 36 = .ok (.iload_n 2, 1) := by decide +kernel
theorem dX3_toldDoesNotSuit_37 : decode cX3_toldDoesNotSuit 37 = .ok (.aaload, 1) := by decide +kernel
theorem dX3_toldDoesNotSuit_38 : decode cX3_toldDoesNotSuit 38 = .ok (.invokevirtual 141, 3) := by decide +kernel
theorem dX3_toldDoesNotSuit_41 : decode cX3_toldDoesNotSuit 41 = .ok (.ifCond .eq 5, 3) := by decide +kernel
theorem dX3_toldDoesNotSuit_44 : decode cX3_toldDoesNotSuit 44 = .ok (.iconst 1, 1) := by decide +kernel
theorem dX3_toldDoesNotSuit_45 : decode cX3_toldDoesNotSuit 45 = .ok (.ireturn, 1) := by decide +kernel
theorem dX3_toldDoesNotSuit_46 : decode cX3_toldDoesNotSuit 46 = .ok (.iinc 1 1, 3) := by decide +kernel
theorem dX3_toldDoesNotSuit_49 : decode cX3_toldDoesNotSuit 49 = .ok (.goto (-47), 3) := by decide +kernel
theorem dX3_toldDoesNotSuit_52 : decode cX3_toldDoesNotSuit 52 = .ok (.iconst 0, 1) := by decide +kernel
theorem dX3_toldDoesNotSuit_53 : decode cX3_toldDoesNotSuit 53 = .ok (.ireturn, 1) := by decide +kernel
theorem dX3_toldClashes_0 : decode cX3_toldClashes 0 = .ok (.iconst 0, 1) := by decide +kernel
theorem dX3_toldClashes_1 : decode cX3_toldClashes 1 = .ok (.istore_n 1, 1) := by decide +kernel
theorem dX3_toldClashes_2 : decode cX3_toldClashes 2 = .ok (.iload_n 1, 1) := by decide +kernel
theorem dX3_toldClashes_3 : decode cX3_toldClashes 3 = .ok (.aload_n 0, 1) := by decide +kernel
theorem dX3_toldClashes_4 : decode cX3_toldClashes 4 = .ok (.getfield 41, 3) := by decide +kernel
theorem dX3_toldClashes_7 : decode cX3_toldClashes 7 = .ok (.if_icmp .ge 91, 3) := by decide +kernel
theorem dX3_toldClashes_10 : decode cX3_toldClashes 10 = .ok (.iconst 0, 1) := by decide +kernel
theorem dX3_toldClashes_11 : decode cX3_toldClashes 11 = .ok (.istore_n 2, 1) := by decide +kernel
theorem dX3_toldClashes_12 : decode cX3_toldClashes 12 = .ok (.iload_n 2, 1) := by decide +kernel
theorem dX3_toldClashes_13 : decode cX3_toldClashes 13 = .ok (.iload_n 1, 1) := by decide +kernel
theorem dX3_toldClashes_14 : decode cX3_toldClashes 14 = .ok (.if_icmp .ge 78, 3) := by decide +kernel
theorem dX3_toldClashes_17 : decode cX3_toldClashes 17 = .ok (.aload_n 0, 1) := by decide +kernel
theorem dX3_toldClashes_18 : decode cX3_toldClashes 18 = .ok (.getfield 32, 3) := by decide +kernel
theorem dX3_toldClashes_21 : decode cX3_toldClashes 21 = .ok (.iload_n 1, 1) := by decide +kernel
theorem dX3_toldClashes_22 : decode cX3_toldClashes 22 = .ok (.iaload, 1) := by decide +kernel
theorem dX3_toldClashes_23 : decode cX3_toldClashes 23 = .ok (.istore_n 3, 1) := by decide +kernel
theorem dX3_toldClashes_24 : decode cX3_toldClashes 24 = .ok (.aload_n 0, 1) := by decide +kernel
theorem dX3_toldClashes_25 : decode cX3_toldClashes 25 = .ok (.getfield 32, 3) := by decide +kernel
theorem dX3_toldClashes_28 : decode cX3_toldClashes 28 = .ok (.iload_n 2, 1) := by decide +kernel
theorem dX3_toldClashes_29 : decode cX3_toldClashes 29 = .ok (.iaload, 1) := by decide +kernel
theorem dX3_toldClashes_30 : decode cX3_toldClashes 30 = .ok (.istore 4, 2) := by decide +kernel
theorem dX3_toldClashes_32 : decode cX3_toldClashes 32 = .ok (.aload_n 0, 1) := by decide +kernel
theorem dX3_toldClashes_33 : decode cX3_toldClashes 33 = .ok (.getfield 11, 3) := by decide +kernel
theorem dX3_toldClashes_36 : decode cX3_toldClashes 36 = .ok (.iload_n 1, 1) := by decide +kernel
theorem dX3_toldClashes_37 : decode cX3_toldClashes 37 = .ok (.aaload, 1) := by decide +kernel
theorem dX3_toldClashes_38 : decode cX3_toldClashes 38 = .ok (.getfield 77, 3) := by decide +kernel
theorem dX3_toldClashes_41 : decode cX3_toldClashes 41 = .ok (.iload_n 2, 1) := by decide +kernel
theorem dX3_toldClashes_42 : decode cX3_toldClashes 42 = .ok (.invokestatic 80, 3) := by decide +kernel
theorem dX3_toldClashes_45 : decode cX3_toldClashes 45 = .ok (.ifCond .eq 41, 3) := by decide +kernel
theorem dX3_toldClashes_48 : decode cX3_toldClashes 48 = .ok (.aload_n 0, 1) := by decide +kernel
theorem dX3_toldClashes_49 : decode cX3_toldClashes 49 = .ok (.iload_n 3, 1) := by decide +kernel
theorem dX3_toldClashes_50 : decode cX3_toldClashes 50 = .ok (.invokevirtual 121, 3) := by decide +kernel
theorem dX3_toldClashes_53 : decode cX3_toldClashes 53 = .ok (.ifCond .eq 33, 3) := by decide +kernel
theorem dX3_toldClashes_56 : decode cX3_toldClashes 56 = .ok (.aload_n 0, 1) := by decide +kernel
theorem dX3_toldClashes_57 : decode cX3_toldClashes 57 = .ok (.iload 4, 2) := by decide +kernel
theorem dX3_toldClashes_59 : decode cX3_toldClashes 59 = .ok (.invokevirtual 121, 3) := by decide +kernel
theorem dX3_toldClashes_62 : decode cX3_toldClashes 62 = .ok (.ifCond .eq 24, 3) := by decide +kernel
theorem dX3_toldClashes_65 : decode cX3_toldClashes 65 = .ok (.aload_n 0, 1) := by decide +kernel
theorem dX3_toldClashes_66 : decode cX3_toldClashes 66 = .ok (.getfield 17, 3) := by decide +kernel
theorem dX3_toldClashes_69 : decode cX3_toldClashes 69 = .ok (.iload_n 3, 1) := by decide +kernel
theorem dX3_toldClashes_70 : decode cX3_toldClashes 70 = .ok (.aaload, 1) := by decide +kernel
theorem dX3_toldClashes_71 : decode cX3_toldClashes 71 = .ok (.aload_n 0, 1) := by decide +kernel
theorem dX3_toldClashes_72 : decode cX3_toldClashes 72 = .ok (.getfield 17, 3) := by decide +kernel
theorem dX3_toldClashes_75 : decode cX3_toldClashes 75 = .ok (.iload 4, 2) := by decide +kernel
theorem dX3_toldClashes_77 : decode cX3_toldClashes 77 = .ok (.aaload, 1) := by decide +kernel
theorem dX3_toldClashes_78 : decode cX3_toldClashes 78 = .ok (.invokestatic 220, 3) := by decide +kernel
theorem dX3_toldClashes_81 : decode cX3_toldClashes 81 = .ok (.ifCond .eq 5, 3) := by decide +kernel
theorem dX3_toldClashes_84 : decode cX3_toldClashes 84 = .ok (.iconst 1, 1) := by decide +kernel
theorem dX3_toldClashes_85 : decode cX3_toldClashes 85 = .ok (.ireturn, 1) := by decide +kernel
theorem dX3_toldClashes_86 : decode cX3_toldClashes 86 = .ok (.iinc 2 1, 3) := by decide +kernel
theorem dX3_toldClashes_89 : decode cX3_toldClashes 89 = .ok (.goto (-77), 3) := by decide +kernel
theorem dX3_toldClashes_92 : decode cX3_toldClashes 92 = .ok (.iinc 1 1, 3) := by decide +kernel
theorem dX3_toldClashes_95 : decode cX3_toldClashes 95 = .ok (.goto (-93), 3) := by decide +kernel
theorem dX3_toldClashes_98 : decode cX3_toldClashes 98 = .ok (.iconst 0, 1) := by decide +kernel
theorem dX3_toldClashes_99 : decode cX3_toldClashes 99 = .ok (.ireturn, 1) := by decide +kernel
theorem dX3_stowTold_0 : decode cX3_stowTold 0 = .ok (.iconst 0, 1) := by decide +kernel
theorem dX3_stowTold_1 : decode cX3_stowTold 1 = .ok (.istore_n 1, 1) := by decide +kernel
theorem dX3_stowTold_2 : decode cX3_stowTold 2 = .ok (.iload_n 1, 1) := by decide +kernel
theorem dX3_stowTold_3 : decode cX3_stowTold 3 = .ok (.aload_n 0, 1) := by decide +kernel
theorem dX3_stowTold_4 : decode cX3_stowTold 4 = .ok (.getfield 45, 3) := by decide +kernel
theorem dX3_stowTold_7 : decode cX3_stowTold 7 = .ok (.if_icmp .ge 24, 3) := by decide +kernel
theorem dX3_stowTold_10 : decode cX3_stowTold 10 = .ok (.aload_n 0, 1) := by decide +kernel
theorem dX3_stowTold_11 : decode cX3_stowTold 11 = .ok (.getfield 38, 3) := by decide +kernel
theorem dX3_stowTold_14 : decode cX3_stowTold 14 = .ok (.iload_n 1, 1) := by decide +kernel
theorem dX3_stowTold_15 : decode cX3_stowTold 15 = .ok (.aload_n 0, 1) := by decide +kernel
theorem dX3_stowTold_16 : decode cX3_stowTold 16 = .ok (.getfield 17, 3) := by decide +kernel
theorem dX3_stowTold_19 : decode cX3_stowTold 19 = .ok (.iload_n 1, 1) := by decide +kernel
theorem dX3_stowTold_20 : decode cX3_stowTold 20 = .ok (.aaload, 1) := by decide +kernel
theorem dX3_stowTold_21 : decode cX3_stowTold 21 = .ok (.getfield 102, 3) := by decide +kernel
theorem dX3_stowTold_24 : decode cX3_stowTold 24 = .ok (.iastore, 1) := by decide +kernel
theorem dX3_stowTold_25 : decode cX3_stowTold 25 = .ok (.iinc 1 1, 3) := by decide +kernel
theorem dX3_stowTold_28 : decode cX3_stowTold 28 = .ok (.goto (-26), 3) := by decide +kernel
theorem dX3_stowTold_31 : decode cX3_stowTold 31 = .ok (.iconst 0, 1) := by decide +kernel
theorem dX3_stowTold_32 : decode cX3_stowTold 32 = .ok (.istore_n 1, 1) := by decide +kernel
theorem dX3_stowTold_33 : decode cX3_stowTold 33 = .ok (.iload_n 1, 1) := by decide +kernel
theorem dX3_stowTold_34 : decode cX3_stowTold 34 = .ok (.aload_n 0, 1) := by decide +kernel
theorem dX3_stowTold_35 : decode cX3_stowTold 35 = .ok (.getfield 41, 3) := by decide +kernel
theorem dX3_stowTold_38 : decode cX3_stowTold 38 = .ok (.if_icmp .ge 70, 3) := by decide +kernel
theorem dX3_stowTold_41 : decode cX3_stowTold 41 = .ok (.aload_n 0, 1) := by decide +kernel
theorem dX3_stowTold_42 : decode cX3_stowTold 42 = .ok (.getfield 32, 3) := by decide +kernel
theorem dX3_stowTold_45 : decode cX3_stowTold 45 = .ok (.iload_n 1, 1) := by decide +kernel
theorem dX3_stowTold_46 : decode cX3_stowTold 46 = .ok (.iaload, 1) := by decide +kernel
theorem dX3_stowTold_47 : decode cX3_stowTold 47 = .ok (.istore_n 2, 1) := by decide +kernel
theorem dX3_stowTold_48 : decode cX3_stowTold 48 = .ok (.aload_n 0, 1) := by decide +kernel
theorem dX3_stowTold_49 : decode cX3_stowTold 49 = .ok (.getfield 35, 3) := by decide +kernel
theorem dX3_stowTold_52 : decode cX3_stowTold 52 = .ok (.iload_n 1, 1) := by decide +kernel
theorem dX3_stowTold_53 : decode cX3_stowTold 53 = .ok (.iconst 0, 1) := by decide +kernel
theorem dX3_stowTold_54 : decode cX3_stowTold 54 = .ok (.iastore, 1) := by decide +kernel
theorem dX3_stowTold_55 : decode cX3_stowTold 55 = .ok (.aload_n 0, 1) := by decide +kernel
theorem dX3_stowTold_56 : decode cX3_stowTold 56 = .ok (.iload_n 2, 1) := by decide +kernel
theorem dX3_stowTold_57 : decode cX3_stowTold 57 = .ok (.invokevirtual 121, 3) := by decide +kernel
theorem dX3_stowTold_60 : decode cX3_stowTold 60 = .ok (.ifCond .eq 42, 3) := by decide +kernel
theorem dX3_stowTold_63 : decode cX3_stowTold 63 = .ok (.aload_n 0, 1) := by decide +kernel
theorem dX3_stowTold_64 : decode cX3_stowTold 64 = .ok (.getfield 35, 3) := by decide +kernel
theorem dX3_stowTold_67 : decode cX3_stowTold 67 = .ok (.iload_n 1, 1) := by decide +kernel
theorem dX3_stowTold_68 : decode cX3_stowTold 68 = .ok (.aload_n 0, 1) := by decide +kernel
theorem dX3_stowTold_69 : decode cX3_stowTold 69 = .ok (.getfield 11, 3) := by decide +kernel
theorem dX3_stowTold_72 : decode cX3_stowTold 72 = .ok (.iload_n 1, 1) := by decide +kernel
theorem dX3_stowTold_73 : decode cX3_stowTold 73 = .ok (.aaload, 1) := by decide +kernel
theorem dX3_stowTold_74 : decode cX3_stowTold 74 = .ok (.getfield 64, 3) := by decide +kernel
theorem dX3_stowTold_77 : decode cX3_stowTold 77 = .ok (.aload_n 0, 1) := by decide +kernel
theorem dX3_stowTold_78 : decode cX3_stowTold 78 = .ok (.getfield 38, 3) := by decide +kernel
theorem dX3_stowTold_81 : decode cX3_stowTold 81 = .ok (.iload_n 2, 1) := by decide +kernel
theorem dX3_stowTold_82 : decode cX3_stowTold 82 = .ok (.iaload, 1) := by decide +kernel
theorem dX3_stowTold_83 : decode cX3_stowTold 83 = .ok (.invokestatic 224, 3) := by decide +kernel
theorem dX3_stowTold_86 : decode cX3_stowTold 86 = .ok (.iastore, 1) := by decide +kernel
theorem dX3_stowTold_87 : decode cX3_stowTold 87 = .ok (.aload_n 0, 1) := by decide +kernel
theorem dX3_stowTold_88 : decode cX3_stowTold 88 = .ok (.getfield 38, 3) := by decide +kernel
theorem dX3_stowTold_91 : decode cX3_stowTold 91 = .ok (.iload_n 2, 1) := by decide +kernel
theorem dX3_stowTold_92 : decode cX3_stowTold 92 = .ok (.dup2, 1) := by decide +kernel
theorem dX3_stowTold_93 : decode cX3_stowTold 93 = .ok (.iaload, 1) := by decide +kernel
theorem dX3_stowTold_94 : decode cX3_stowTold 94 = .ok (.aload_n 0, 1) := by decide +kernel
theorem dX3_stowTold_95 : decode cX3_stowTold 95 = .ok (.getfield 35, 3) := by decide +kernel
theorem dX3_stowTold_98 : decode cX3_stowTold 98 = .ok (.iload_n 1, 1) := by decide +kernel
theorem dX3_stowTold_99 : decode cX3_stowTold 99 = .ok (.iaload, 1) := by decide +kernel
theorem dX3_stowTold_100 : decode cX3_stowTold 100 = .ok (.isub, 1) := by decide +kernel
theorem dX3_stowTold_101 : decode cX3_stowTold 101 = .ok (.iastore, 1) := by decide +kernel
theorem dX3_stowTold_102 : decode cX3_stowTold 102 = .ok (.iinc 1 1, 3) := by decide +kernel
theorem dX3_stowTold_105 : decode cX3_stowTold 105 = .ok (.goto (-72), 3) := by decide +kernel
theorem dX3_stowTold_108 : decode cX3_stowTold 108 = .ok (.return_, 1) := by decide +kernel
theorem dX3_toldLeavesSomeOf_0 : decode cX3_toldLeavesSomeOf 0 = .ok (.iconst 0, 1) := by decide +kernel
theorem dX3_toldLeavesSomeOf_1 : decode cX3_toldLeavesSomeOf 1 = .ok (.istore_n 2, 1) := by decide +kernel
theorem dX3_toldLeavesSomeOf_2 : decode cX3_toldLeavesSomeOf 2 = .ok (.iload_n 2, 1) := by decide +kernel
theorem dX3_toldLeavesSomeOf_3 : decode cX3_toldLeavesSomeOf 3 = .ok (.aload_n 0, 1) := by decide +kernel
theorem dX3_toldLeavesSomeOf_4 : decode cX3_toldLeavesSomeOf 4 = .ok (.getfield 45, 3) := by decide +kernel
theorem dX3_toldLeavesSomeOf_7 : decode cX3_toldLeavesSomeOf 7 = .ok (.if_icmp .ge 28, 3) := by decide +kernel
theorem dX3_toldLeavesSomeOf_10 : decode cX3_toldLeavesSomeOf 10 = .ok (.iload_n 1, 1) := by decide +kernel
theorem dX3_toldLeavesSomeOf_11 : decode cX3_toldLeavesSomeOf 11 = .ok (.iload_n 2, 1) := by decide +kernel
theorem dX3_toldLeavesSomeOf_12 : decode cX3_toldLeavesSomeOf 12 = .ok (.invokestatic 80, 3) := by decide +kernel
theorem dX3_toldLeavesSomeOf_15 : decode cX3_toldLeavesSomeOf 15 = .ok (.ifCond .eq 14, 3) := by decide +kernel
theorem dX3_toldLeavesSomeOf_18 : decode cX3_toldLeavesSomeOf 18 = .ok (.aload_n 0, 1) := by decide +kernel
theorem dX3_toldLeavesSomeOf_19 : decode cX3_toldLeavesSomeOf 19 = .ok (.getfield 38, 3) := by decide +kernel
theorem dX3_toldLeavesSomeOf_22 : decode cX3_toldLeavesSomeOf 22 = .ok (.iload_n 2, 1) := by decide +kernel
theorem dX3_toldLeavesSomeOf_23 : decode cX3_toldLeavesSomeOf 23 = .ok (.iaload, 1) := by decide +kernel
theorem dX3_toldLeavesSomeOf_24 : decode cX3_toldLeavesSomeOf 24 = .ok (.ifCond .le 5, 3) := by decide +kernel
theorem dX3_toldLeavesSomeOf_27 : decode cX3_toldLeavesSomeOf 27 = .ok (.iconst 1, 1) := by decide +kernel
theorem dX3_toldLeavesSomeOf_28 : decode cX3_toldLeavesSomeOf 28 = .ok (.ireturn, 1) := by decide +kernel
theorem dX3_toldLeavesSomeOf_29 : decode cX3_toldLeavesSomeOf 29 = .ok (.iinc 2 1, 3) := by decide +kernel
theorem dX3_toldLeavesSomeOf_32 : decode cX3_toldLeavesSomeOf 32 = .ok (.goto (-30), 3) := by decide +kernel
theorem dX3_toldLeavesSomeOf_35 : decode cX3_toldLeavesSomeOf 35 = .ok (.iconst 0, 1) := by decide +kernel
theorem dX3_toldLeavesSomeOf_36 : decode cX3_toldLeavesSomeOf 36 = .ok (.ireturn, 1) := by decide +kernel
theorem dX3_toldLeavesTankEmpty_0 : decode cX3_toldLeavesTankEmpty 0 = .ok (.iconst 0, 1) := by decide +kernel
theorem dX3_toldLeavesTankEmpty_1 : decode cX3_toldLeavesTankEmpty 1 = .ok (.istore_n 1, 1) := by decide +kernel
theorem dX3_toldLeavesTankEmpty_2 : decode cX3_toldLeavesTankEmpty 2 = .ok (.iload_n 1, 1) := by decide +kernel
theorem dX3_toldLeavesTankEmpty_3 : decode cX3_toldLeavesTankEmpty 3 = .ok (.aload_n 0, 1) := by decide +kernel
theorem dX3_toldLeavesTankEmpty_4 : decode cX3_toldLeavesTankEmpty 4 = .ok (.getfield 41, 3) := by decide +kernel
theorem dX3_toldLeavesTankEmpty_7 : decode cX3_toldLeavesTankEmpty 7 = .ok (.if_icmp .ge 31, 3) := by decide +kernel
theorem dX3_toldLeavesTankEmpty_10 : decode cX3_toldLeavesTankEmpty 10 = .ok (.aload_n 0, 1) := by decide +kernel
theorem dX3_toldLeavesTankEmpty_11 : decode cX3_toldLeavesTankEmpty 11 = .ok (.getfield 32, 3) := by decide +kernel
theorem dX3_toldLeavesTankEmpty_14 : decode cX3_toldLeavesTankEmpty 14 = .ok (.iload_n 1, 1) := by decide +kernel
theorem dX3_toldLeavesTankEmpty_15 : decode cX3_toldLeavesTankEmpty 15 = .ok (.iaload, 1) := by decide +kernel
theorem dX3_toldLeavesTankEmpty_16 : decode cX3_toldLeavesTankEmpty 16 = .ok (.bipush (-9), 2) := by decide +kernel
theorem dX3_toldLeavesTankEmpty_18 : decode cX3_toldLeavesTankEmpty 18 = .ok (.if_icmp .eq 14, 3) := by decide +kernel
theorem dX3_toldLeavesTankEmpty_21 : decode cX3_toldLeavesTankEmpty 21 = .ok (.aload_n 0, 1) := by decide +kernel
theorem dX3_toldLeavesTankEmpty_22 : decode cX3_toldLeavesTankEmpty 22 = .ok (.getfield 35, 3) := by decide +kernel
theorem dX3_toldLeavesTankEmpty_25 : decode cX3_toldLeavesTankEmpty 25 = .ok (.iload_n 1, 1) := by decide +kernel
theorem dX3_toldLeavesTankEmpty_26 : decode cX3_toldLeavesTankEmpty 26 = .ok (.iaload, 1) := by decide +kernel
theorem dX3_toldLeavesTankEmpty_27 : decode cX3_toldLeavesTankEmpty 27 = .ok (.ifCond .ne 5, 3) := by decide +kernel
theorem dX3_toldLeavesTankEmpty_30 : decode cX3_toldLeavesTankEmpty 30 = .ok (.iconst 1, 1) := by decide +kernel
theorem dX3_toldLeavesTankEmpty_31 : decode cX3_toldLeavesTankEmpty 31 = .ok (.ireturn, 1) := by decide +kernel
theorem dX3_toldLeavesTankEmpty_32 : decode cX3_toldLeavesTankEmpty 32 = .ok (.iinc 1 1, 3) := by decide +kernel
theorem dX3_toldLeavesTankEmpty_35 : decode cX3_toldLeavesTankEmpty 35 = .ok (.goto (-33), 3) := by decide +kernel
theorem dX3_toldLeavesTankEmpty_38 : decode cX3_toldLeavesTankEmpty 38 = .ok (.iconst 0, 1) := by decide +kernel
theorem dX3_toldLeavesTankEmpty_39 : decode cX3_toldLeavesTankEmpty 39 = .ok (.ireturn, 1) := by decide +kernel
theorem dX3_toldList_0 : decode cX3_toldList 0 = .ok (.iconst 0, 1) := by decide +kernel
theorem dX3_toldList_1 : decode cX3_toldList 1 = .ok (.istore_n 1, 1) := by decide +kernel
theorem dX3_toldList_2 : decode cX3_toldList 2 = .ok (.iconst 0, 1) := by decide +kernel
theorem dX3_toldList_3 : decode cX3_toldList 3 = .ok (.istore_n 2, 1) := by decide +kernel
theorem dX3_toldList_4 : decode cX3_toldList 4 = .ok (.iload_n 2, 1) := by decide +kernel
theorem dX3_toldList_5 : decode cX3_toldList 5 = .ok (.aload_n 0, 1) := by decide +kernel
theorem dX3_toldList_6 : decode cX3_toldList 6 = .ok (.getfield 41, 3) := by decide +kernel
theorem dX3_toldList_9 : decode cX3_toldList 9 = .ok (.if_icmp .ge 28, 3) := by decide +kernel
theorem dX3_toldList_12 : decode cX3_toldList 12 = .ok (.iload_n 1, 1) := by decide +kernel
theorem dX3_toldList_13 : decode cX3_toldList 13 = .ok (.aload_n 0, 1) := by decide +kernel
theorem dX3_toldList_14 : decode cX3_toldList 14 = .ok (.getfield 35, 3) := by decide +kernel
theorem dX3_toldList_17 : decode cX3_toldList 17 = .ok (.iload_n 2, 1) := by decide +kernel
theorem dX3_toldList_18 : decode cX3_toldList 18 = .ok (.iaload, 1) := by decide +kernel
theorem dX3_toldList_19 : decode cX3_toldList 19 = .ok (.aload_n 0, 1) := by decide +kernel
theorem dX3_toldList_20 : decode cX3_toldList 20 = .ok (.getfield 11, 3) := by decide +kernel
theorem dX3_toldList_23 : decode cX3_toldList 23 = .ok (.iload_n 2, 1) := by decide +kernel
theorem dX3_toldList_24 : decode cX3_toldList 24 = .ok (.aaload, 1) := by decide +kernel
theorem dX3_toldList_25 : decode cX3_toldList 25 = .ok (.getfield 70, 3) := by decide +kernel
theorem dX3_toldList_28 : decode cX3_toldList 28 = .ok (.imul, 1) := by decide +kernel
theorem dX3_toldList_29 : decode cX3_toldList 29 = .ok (.iadd, 1) := by decide +kernel
theorem dX3_toldList_30 : decode cX3_toldList 30 = .ok (.istore_n 1, 1) := by decide +kernel
theorem dX3_toldList_31 : decode cX3_toldList 31 = .ok (.iinc 2 1, 3) := by decide +kernel
theorem dX3_toldList_34 : decode cX3_toldList 34 = .ok (.goto (-30), 3) := by decide +kernel
theorem dX3_toldList_37 : decode cX3_toldList 37 = .ok (.iload_n 1, 1) := by decide +kernel
theorem dX3_toldList_38 : decode cX3_toldList 38 = .ok (.ireturn, 1) := by decide +kernel
theorem dX3_toldCost_0 : decode cX3_toldCost 0 = .ok (.iconst 0, 1) := by decide +kernel
theorem dX3_toldCost_1 : decode cX3_toldCost 1 = .ok (.istore_n 1, 1) := by decide +kernel
theorem dX3_toldCost_2 : decode cX3_toldCost 2 = .ok (.iconst 0, 1) := by decide +kernel
theorem dX3_toldCost_3 : decode cX3_toldCost 3 = .ok (.istore_n 2, 1) := by decide +kernel
theorem dX3_toldCost_4 : decode cX3_toldCost 4 = .ok (.iload_n 2, 1) := by decide +kernel
theorem dX3_toldCost_5 : decode cX3_toldCost 5 = .ok (.aload_n 0, 1) := by decide +kernel
theorem dX3_toldCost_6 : decode cX3_toldCost 6 = .ok (.getfield 41, 3) := by decide +kernel
theorem dX3_toldCost_9 : decode cX3_toldCost 9 = .ok (.if_icmp .ge 43, 3) := by decide +kernel
theorem dX3_toldCost_12 : decode cX3_toldCost 12 = .ok (.aload_n 0, 1) := by decide +kernel
theorem dX3_toldCost_13 : decode cX3_toldCost 13 = .ok (.getfield 32, 3) := by decide +kernel
theorem dX3_toldCost_16 : decode cX3_toldCost 16 = .ok (.iload_n 2, 1) := by decide +kernel
theorem dX3_toldCost_17 : decode cX3_toldCost 17 = .ok (.iaload, 1) := by decide +kernel
theorem dX3_toldCost_18 : decode cX3_toldCost 18 = .ok (.istore_n 3, 1) := by decide +kernel
theorem dX3_toldCost_19 : decode cX3_toldCost 19 = .ok (.aload_n 0, 1) := by decide +kernel
theorem dX3_toldCost_20 : decode cX3_toldCost 20 = .ok (.iload_n 3, 1) := by decide +kernel
theorem dX3_toldCost_21 : decode cX3_toldCost 21 = .ok (.invokevirtual 121, 3) := by decide +kernel
theorem dX3_toldCost_24 : decode cX3_toldCost 24 = .ok (.ifCond .eq 22, 3) := by decide +kernel
theorem dX3_toldCost_27 : decode cX3_toldCost 27 = .ok (.iload_n 1, 1) := by decide +kernel
theorem dX3_toldCost_28 : decode cX3_toldCost 28 = .ok (.aload_n 0, 1) := by decide +kernel
theorem dX3_toldCost_29 : decode cX3_toldCost 29 = .ok (.aload_n 0, 1) := by decide +kernel
theorem dX3_toldCost_30 : decode cX3_toldCost 30 = .ok (.getfield 11, 3) := by decide +kernel
theorem dX3_toldCost_33 : decode cX3_toldCost 33 = .ok (.iload_n 2, 1) := by decide +kernel
theorem dX3_toldCost_34 : decode cX3_toldCost 34 = .ok (.aaload, 1) := by decide +kernel
theorem dX3_toldCost_35 : decode cX3_toldCost 35 = .ok (.aload_n 0, 1) := by decide +kernel
theorem dX3_toldCost_36 : decode cX3_toldCost 36 = .ok (.getfield 17, 3) := by decide +kernel
theorem dX3_toldCost_39 : decode cX3_toldCost 39 = .ok (.iload_n 3, 1) := by decide +kernel
theorem dX3_toldCost_40 : decode cX3_toldCost 40 = .ok (.aaload, 1) := by decide +kernel
theorem dX3_toldCost_41 : decode cX3_toldCost 41 = .ok (.invokevirtual 137, 3) := by decide +kernel
theorem dX3_toldCost_44 : decode cX3_toldCost 44 = .ok (.iadd, 1) := by decide +kernel
theorem dX3_toldCost_45 : decode cX3_toldCost 45 = .ok (.istore_n 1, 1) := by decide +kernel
theorem dX3_toldCost_46 : decode cX3_toldCost 46 = .ok (.iinc 2 1, 3) := by decide +kernel
theorem dX3_toldCost_49 : decode cX3_toldCost 49 = .ok (.goto (-45), 3) := by decide +kernel
theorem dX3_toldCost_52 : decode cX3_toldCost 52 = .ok (.iload_n 1, 1) := by decide +kernel
theorem dX3_toldCost_53 : decode cX3_toldCost 53 = .ok (.ireturn, 1) := by decide +kernel
theorem dX3_toldTanks_0 : decode cX3_toldTanks 0 = .ok (.iconst 0, 1) := by decide +kernel
theorem dX3_toldTanks_1 : decode cX3_toldTanks 1 = .ok (.istore_n 1, 1) := by decide +kernel
theorem dX3_toldTanks_2 : decode cX3_toldTanks 2 = .ok (.iconst 0, 1) := by decide +kernel
theorem dX3_toldTanks_3 : decode cX3_toldTanks 3 = .ok (.istore_n 2, 1) := by decide +kernel
theorem dX3_toldTanks_4 : decode cX3_toldTanks 4 = .ok (.iload_n 2, 1) := by decide +kernel
theorem dX3_toldTanks_5 : decode cX3_toldTanks 5 = .ok (.aload_n 0, 1) := by decide +kernel
theorem dX3_toldTanks_6 : decode cX3_toldTanks 6 = .ok (.getfield 41, 3) := by decide +kernel
theorem dX3_toldTanks_9 : decode cX3_toldTanks 9 = .ok (.if_icmp .ge 23, 3) := by decide +kernel
theorem dX3_toldTanks_12 : decode cX3_toldTanks 12 = .ok (.aload_n 0, 1) := by decide +kernel
theorem dX3_toldTanks_13 : decode cX3_toldTanks 13 = .ok (.getfield 32, 3) := by decide +kernel
theorem dX3_toldTanks_16 : decode cX3_toldTanks 16 = .ok (.iload_n 2, 1) := by decide +kernel
theorem dX3_toldTanks_17 : decode cX3_toldTanks 17 = .ok (.iaload, 1) := by decide +kernel
theorem dX3_toldTanks_18 : decode cX3_toldTanks 18 = .ok (.bipush (-9), 2) := by decide +kernel
theorem dX3_toldTanks_20 : decode cX3_toldTanks 20 = .ok (.if_icmp .eq 6, 3) := by decide +kernel
theorem dX3_toldTanks_23 : decode cX3_toldTanks 23 = .ok (.iinc 1 1, 3) := by decide +kernel
theorem dX3_toldTanks_26 : decode cX3_toldTanks 26 = .ok (.iinc 2 1, 3) := by decide +kernel
theorem dX3_toldTanks_29 : decode cX3_toldTanks 29 = .ok (.goto (-25), 3) := by decide +kernel
theorem dX3_toldTanks_32 : decode cX3_toldTanks 32 = .ok (.iload_n 1, 1) := by decide +kernel
theorem dX3_toldTanks_33 : decode cX3_toldTanks 33 = .ok (.ireturn, 1) := by decide +kernel
theorem dX3_takenSet_0 : decode cX3_takenSet 0 = .ok (.aload_n 0, 1) := by decide +kernel
theorem dX3_takenSet_1 : decode cX3_takenSet 1 = .ok (.invokevirtual 182, 3) := by decide +kernel
theorem dX3_takenSet_4 : decode cX3_takenSet 4 = .ok (.iconst 0, 1) := by decide +kernel
theorem dX3_takenSet_5 : decode cX3_takenSet 5 = .ok (.istore_n 1, 1) := by decide +kernel
theorem dX3_takenSet_6 : decode cX3_takenSet 6 = .ok (.iconst 0, 1) := by decide +kernel
theorem dX3_takenSet_7 : decode cX3_takenSet 7 = .ok (.istore_n 2, 1) := by decide +kernel
theorem dX3_takenSet_8 : decode cX3_takenSet 8 = .ok (.iconst 1, 1) := by decide +kernel
theorem dX3_takenSet_9 : decode cX3_takenSet 9 = .ok (.aload_n 0, 1) := by decide +kernel
theorem dX3_takenSet_10 : decode cX3_takenSet 10 = .ok (.getfield 45, 3) := by decide +kernel
theorem dX3_takenSet_13 : decode cX3_takenSet 13 = .ok (.ishl, 1) := by decide +kernel
theorem dX3_takenSet_14 : decode cX3_takenSet 14 = .ok (.istore_n 3, 1) := by decide +kernel
theorem dX3_takenSet_15 : decode cX3_takenSet 15 = .ok (.iconst 1, 1) := by decide +kernel
theorem dX3_takenSet_16 : decode cX3_takenSet 16 = .ok (.istore 4, 2) := by decide +kernel
theorem dX3_takenSet_18 : decode cX3_takenSet 18 = .ok (.iload 4, 2) := by decide +kernel
theorem dX3_takenSet_20 : decode cX3_takenSet 20 = .ok (.iload_n 3, 1) := by decide +kernel
theorem dX3_takenSet_21 : decode cX3_takenSet 21 = .ok (.if_icmp .ge 72, 3) := by decide +kernel
theorem dX3_takenSet_24 : decode cX3_takenSet 24 = .ok (.aload_n 0, 1) := by decide +kernel
theorem dX3_takenSet_25 : decode cX3_takenSet 25 = .ok (.iload 4, 2) := by decide +kernel
theorem dX3_takenSet_27 : decode cX3_takenSet 27 = .ok (.invokevirtual 228, 3) := by decide +kernel
theorem dX3_takenSet_30 : decode cX3_takenSet 30 = .ok (.istore 5, 2) := by decide +kernel
theorem dX3_takenSet_32 : decode cX3_takenSet 32 = .ok (.iload 4, 2) := by decide +kernel
theorem dX3_takenSet_34 : decode cX3_takenSet 34 = .ok (.invokestatic 231, 3) := by decide +kernel
theorem dX3_takenSet_37 : decode cX3_takenSet 37 = .ok (.iload_n 1, 1) := by decide +kernel
theorem dX3_takenSet_38 : decode cX3_takenSet 38 = .ok (.invokestatic 231, 3) := by decide +kernel
theorem dX3_takenSet_41 : decode cX3_takenSet 41 = .ok (.if_icmp .ge 7, 3) := by decide +kernel
theorem dX3_takenSet_44 : decode cX3_takenSet 44 = .ok (.iconst 1, 1) := by decide +kernel
theorem dX3_takenSet_45 : decode cX3_takenSet 45 = .ok (.goto 4, 3) := by decide +kernel
theorem dX3_takenSet_48 : decode cX3_takenSet 48 = .ok (.iconst 0, 1) := by decide +kernel
theorem dX3_takenSet_49 : decode cX3_takenSet 49 = .ok (.istore 6, 2) := by decide +kernel
theorem dX3_takenSet_51 : decode cX3_takenSet 51 = .ok (.aload_n 0, 1) := by decide +kernel
theorem dX3_takenSet_52 : decode cX3_takenSet 52 = .ok (.getfield 28, 3) := by decide +kernel
theorem dX3_takenSet_55 : decode cX3_takenSet 55 = .ok (.getfield 185, 3) := by decide +kernel
theorem dX3_takenSet_58 : decode cX3_takenSet 58 = .ok (.iload 4, 2) := by decide +kernel
theorem dX3_takenSet_60 : decode cX3_takenSet 60 = .ok (.iaload, 1) := by decide +kernel
theorem dX3_takenSet_61 : decode cX3_takenSet 61 = .ok (.ifCond .le 26, 3) := by decide +kernel
theorem dX3_takenSet_64 : decode cX3_takenSet 64 = .ok (.iload 5, 2) := by decide +kernel
theorem dX3_takenSet_66 : decode cX3_takenSet 66 = .ok (.iload_n 2, 1) := by decide +kernel
theorem dX3_takenSet_67 : decode cX3_takenSet 67 = .ok (.if_icmp .gt 14, 3) := by decide +kernel
theorem dX3_takenSet_70 : decode cX3_takenSet 70 = .ok (.iload 5, 2) := by decide +kernel
theorem dX3_takenSet_72 : decode cX3_takenSet 72 = .ok (.iload_n 2, 1) := by decide +kernel
theorem dX3_takenSet_73 : decode cX3_takenSet 73 = .ok (.if_icmp .ne 14, 3) := by decide +kernel
theorem dX3_takenSet_76 : decode cX3_takenSet 76 = .ok (.iload 6, 2) := by decide +kernel
theorem dX3_takenSet_78 : decode cX3_takenSet 78 = .ok (.ifCond .eq 9, 3) := by decide +kernel
theorem dX3_takenSet_81 : decode cX3_takenSet 81 = .ok (.iload 4, 2) := by decide +kernel
theorem dX3_takenSet_83 : decode cX3_takenSet 83 = .ok (.istore_n 1, 1) := by decide +kernel
theorem dX3_takenSet_84 : decode cX3_takenSet 84 = .ok (.iload 5, 2) := by decide +kernel
theorem dX3_takenSet_86 : decode cX3_takenSet 86 = .ok (.istore_n 2, 1) := by decide +kernel
theorem dX3_takenSet_87 : decode cX3_takenSet 87 = .ok (.iinc 4 1, 3) := by decide +kernel
theorem dX3_takenSet_90 : decode cX3_takenSet 90 = .ok (.goto (-72), 3) := by decide +kernel
theorem dX3_takenSet_93 : decode cX3_takenSet 93 = .ok (.iload_n 1, 1) := by decide +kernel
theorem dX3_takenSet_94 : decode cX3_takenSet 94 = .ok (.ireturn, 1) := by decide +kernel
theorem dX3_amountsOf_0 : decode cX3_amountsOf 0 = .ok (.iconst 0, 1) := by decide +kernel
theorem dX3_amountsOf_1 : decode cX3_amountsOf 1 = .ok (.istore_n 2, 1) := by decide +kernel
theorem dX3_amountsOf_2 : decode cX3_amountsOf 2 = .ok (.iconst 0, 1) := by decide +kernel
theorem dX3_amountsOf_3 : decode cX3_amountsOf 3 = .ok (.istore_n 3, 1) := by decide +kernel
theorem dX3_amountsOf_4 : decode cX3_amountsOf 4 = .ok (.iload_n 3, 1) := by decide +kernel
theorem dX3_amountsOf_5 : decode cX3_amountsOf 5 = .ok (.aload_n 0, 1) := by decide +kernel
theorem dX3_amountsOf_6 : decode cX3_amountsOf 6 = .ok (.getfield 45, 3) := by decide +kernel
theorem dX3_amountsOf_9 : decode cX3_amountsOf 9 = .ok (.if_icmp .ge 29, 3) := by decide +kernel
theorem dX3_amountsOf_12 : decode cX3_amountsOf 12 = .ok (.iload_n 1, 1) := by decide +kernel
theorem dX3_amountsOf_13 : decode cX3_amountsOf 13 = .ok (.iload_n 3, 1) := by decide +kernel
theorem dX3_amountsOf_14 : decode cX3_amountsOf 14 = .ok (.invokestatic 80, 3) := by decide +kernel
theorem dX3_amountsOf_17 : decode cX3_amountsOf 17 = .ok (.ifCond .eq 15, 3) := by decide +kernel
theorem dX3_amountsOf_20 : decode cX3_amountsOf 20 = .ok (.iload_n 2, 1) := by decide +kernel
theorem dX3_amountsOf_21 : decode cX3_amountsOf 21 = .ok (.aload_n 0, 1) := by decide +kernel
theorem dX3_amountsOf_22 : decode cX3_amountsOf 22 = .ok (.getfield 17, 3) := by decide +kernel
theorem dX3_amountsOf_25 : decode cX3_amountsOf 25 = .ok (.iload_n 3, 1) := by decide +kernel
theorem dX3_amountsOf_26 : decode cX3_amountsOf 26 = .ok (.aaload, 1) := by decide +kernel
theorem dX3_amountsOf_27 : decode cX3_amountsOf 27 = .ok (.getfield 102, 3) := by decide +kernel
theorem dX3_amountsOf_30 : decode cX3_amountsOf 30 = .ok (.iadd, 1) := by decide +kernel
theorem dX3_amountsOf_31 : decode cX3_amountsOf 31 = .ok (.istore_n 2, 1) := by decide +kernel
theorem dX3_amountsOf_32 : decode cX3_amountsOf 32 = .ok (.iinc 3 1, 3) := by decide +kernel
theorem dX3_amountsOf_35 : decode cX3_amountsOf 35 = .ok (.goto (-31), 3) := by decide +kernel
theorem dX3_amountsOf_38 : decode cX3_amountsOf 38 = .ok (.iload_n 2, 1) := by decide +kernel
theorem dX3_amountsOf_39 : decode cX3_amountsOf 39 = .ok (.ireturn, 1) := by decide +kernel
theorem dX3_searchIfStale_0 : decode cX3_searchIfStale 0 = .ok (.aload_n 0, 1) := by decide +kernel
theorem dX3_searchIfStale_1 : decode cX3_searchIfStale 1 = .ok (.getfield 54, 3) := by decide +kernel
theorem dX3_searchIfStale_4 : decode cX3_searchIfStale 4 = .ok (.ifCond .eq 4, 3) := by decide +kernel
theorem dX3_searchIfStale_7 : decode cX3_searchIfStale 7 = .ok (.return_, 1) := by decide +kernel
theorem dX3_searchIfStale_8 : decode cX3_searchIfStale 8 = .ok (.iconst 0, 1) := by decide +kernel
theorem dX3_searchIfStale_9 : decode cX3_searchIfStale 9 = .ok (.istore_n 1, 1) := by decide +kernel
theorem dX3_searchIfStale_10 : decode cX3_searchIfStale 10 = .ok (.iload_n 1, 1) := by decide +kernel
theorem dX3_searchIfStale_11 : decode cX3_searchIfStale 11 = .ok (.bipush 16, 2) := by decide +kernel
theorem dX3_searchIfStale_13 : decode cX3_searchIfStale 13 = .ok (.if_icmp .ge 19, 3) := by decide +kernel
theorem dX3_searchIfStale_16 : decode cX3_searchIfStale 16 = .ok (.aload_n 0, 1) := by decide +kernel
theorem dX3_searchIfStale_17 : decode cX3_searchIfStale 17 = .ok (.getfield 28, 3) := by decide +kernel
theorem dX3_searchIfStale_20 : decode cX3_searchIfStale 20 = .ok (.getfield 185, 3) := by decide +kernel
theorem dX3_searchIfStale_23 : decode cX3_searchIfStale 23 = .ok (.iload_n 1, 1) := by decide +kernel
theorem dX3_searchIfStale_24 : decode cX3_searchIfStale 24 = .ok (.iconst 0, 1) := by decide +kernel
theorem dX3_searchIfStale_25 : decode cX3_searchIfStale 25 = .ok (.iastore, 1) := by decide +kernel
theorem dX3_searchIfStale_26 : decode cX3_searchIfStale 26 = .ok (.iinc 1 1, 3) := by decide +kernel
theorem dX3_searchIfStale_29 : decode cX3_searchIfStale 29 = .ok (.goto (-19), 3) := by decide +kernel
theorem dX3_searchIfStale_32 : decode cX3_searchIfStale 32 = .ok (.aload_n 0, 1) := by decide +kernel
theorem dX3_searchIfStale_33 : decode cX3_searchIfStale 33 = .ok (.invokevirtual 236, 3) := by decide +kernel
theorem dX3_searchIfStale_36 : decode cX3_searchIfStale 36 = .ok (.aload_n 0, 1) := by decide +kernel
theorem dX3_searchIfStale_37 : decode cX3_searchIfStale 37 = .ok (.invokevirtual 239, 3) := by decide +kernel
theorem dX3_searchIfStale_40 : decode cX3_searchIfStale 40 = .ok (.aload_n 0, 1) := by decide +kernel
theorem dX3_searchIfStale_41 : decode cX3_searchIfStale 41 = .ok (.getfield 28, 3) := by decide +kernel
theorem dX3_searchIfStale_44 : decode cX3_searchIfStale 44 = .ok (.iconst 0, 1) := by decide +kernel
theorem dX3_searchIfStale_45 : decode cX3_searchIfStale 45 = .ok (.iconst 0, 1) := by decide +kernel
theorem dX3_searchIfStale_46 : decode cX3_searchIfStale 46 = .ok (.iconst 0, 1) := by decide +kernel
theorem dX3_searchIfStale_47 : decode cX3_searchIfStale 47 = .ok (.invokestatic 242, 3) := by decide +kernel
theorem dX3_searchIfStale_50 : decode cX3_searchIfStale 50 = .ok (.aload_n 0, 1) := by decide +kernel
theorem dX3_searchIfStale_51 : decode cX3_searchIfStale 51 = .ok (.iconst 1, 1) := by decide +kernel
theorem dX3_searchIfStale_52 : decode cX3_searchIfStale 52 = .ok (.putfield 54, 3) := by decide +kernel
theorem dX3_searchIfStale_55 : decode cX3_searchIfStale 55 = .ok (.return_, 1) := by decide +kernel
theorem dX3_noteCargoes_0 : decode cX3_noteCargoes 0 = .ok (.aload_n 0, 1) := by decide +kernel
theorem dX3_noteCargoes_1 : decode cX3_noteCargoes 1 = .ok (.getfield 28, 3) := by decide +kernel
theorem dX3_noteCargoes_4 : decode cX3_noteCargoes 4 = .ok (.aload_n 0, 1) := by decide +kernel
theorem dX3_noteCargoes_5 : decode cX3_noteCargoes 5 = .ok (.getfield 45, 3) := by decide +kernel
theorem dX3_noteCargoes_8 : decode cX3_noteCargoes 8 = .ok (.putfield 246, 3) := by decide +kernel
theorem dX3_noteCargoes_11 : decode cX3_noteCargoes 11 = .ok (.iconst 0, 1) := by decide +kernel
theorem dX3_noteCargoes_12 : decode cX3_noteCargoes 12 = .ok (.istore_n 1, 1) := by decide +kernel
theorem dX3_noteCargoes_13 : decode cX3_noteCargoes 13 = .ok (.iload_n 1, 1) := by decide +kernel
theorem dX3_noteCargoes_14 : decode cX3_noteCargoes 14 = .ok (.aload_n 0, 1) := by decide +kernel
theorem dX3_noteCargoes_15 : decode cX3_noteCargoes 15 = .ok (.getfield 45, 3) := by decide +kernel
theorem dX3_noteCargoes_18 : decode cX3_noteCargoes 18 = .ok (.if_icmp .ge 64, 3) := by decide +kernel
theorem dX3_noteCargoes_21 : decode cX3_noteCargoes 21 = .ok (.aload_n 0, 1) := by decide +kernel
theorem dX3_noteCargoes_22 : decode cX3_noteCargoes 22 = .ok (.getfield 28, 3) := by decide +kernel
theorem dX3_noteCargoes_25 : decode cX3_noteCargoes 25 = .ok (.getfield 247, 3) := by decide +kernel
theorem dX3_noteCargoes_28 : decode cX3_noteCargoes 28 = .ok (.iload_n 1, 1) := by decide +kernel
theorem dX3_noteCargoes_29 : decode cX3_noteCargoes 29 = .ok (.aload_n 0, 1) := by decide +kernel
theorem dX3_noteCargoes_30 : decode cX3_noteCargoes 30 = .ok (.getfield 17, 3) := by decide +kernel
theorem dX3_noteCargoes_33 : decode cX3_noteCargoes 33 = .ok (.iload_n 1, 1) := by decide +kernel
theorem dX3_noteCargoes_34 : decode cX3_noteCargoes 34 = .ok (.aaload, 1) := by decide +kernel
theorem dX3_noteCargoes_35 : decode cX3_noteCargoes 35 = .ok (.getfield 102, 3) := by decide +kernel
theorem dX3_noteCargoes_38 : decode cX3_noteCargoes 38 = .ok (.iastore, 1) := by decide +kernel
theorem dX3_noteCargoes_39 : decode cX3_noteCargoes 39 = .ok (.aload_n 0, 1) := by decide +kernel
theorem dX3_noteCargoes_40 : decode cX3_noteCargoes 40 = .ok (.getfield 28, 3) := by decide +kernel
theorem dX3_noteCargoes_43 : decode cX3_noteCargoes 43 = .ok (.getfield 249, 3) := by decide +kernel
theorem dX3_noteCargoes_46 : decode cX3_noteCargoes 46 = .ok (.iload_n 1, 1) := by decide +kernel
theorem dX3_noteCargoes_47 : decode cX3_noteCargoes 47 = .ok (.aload_n 0, 1) := by decide +kernel
theorem dX3_noteCargoes_48 : decode cX3_noteCargoes 48 = .ok (.getfield 17, 3) := by decide +kernel
theorem dX3_noteCargoes_51 : decode cX3_noteCargoes 51 = .ok (.iload_n 1, 1) := by decide +kernel
theorem dX3_noteCargoes_52 : decode cX3_noteCargoes 52 = .ok (.aaload, 1) := by decide +kernel
theorem dX3_noteCargoes_53 : decode cX3_noteCargoes 53 = .ok (.getfield 102, 3) := by decide +kernel
theorem dX3_noteCargoes_56 : decode cX3_noteCargoes 56 = .ok (.iastore, 1) := by decide +kernel
theorem dX3_noteCargoes_57 : decode cX3_noteCargoes 57 = .ok (.aload_n 0, 1) := by decide +kernel
theorem dX3_noteCargoes_58 : decode cX3_noteCargoes 58 = .ok (.getfield 28, 3) := by decide +kernel
theorem dX3_noteCargoes_61 : decode cX3_noteCargoes 61 = .ok (.getfield 252, 3) := by decide +kernel
theorem dX3_noteCargoes_64 : decode cX3_noteCargoes 64 = .ok (.iload_n 1, 1) := by decide +kernel
theorem dX3_noteCargoes_65 : decode cX3_noteCargoes 65 = .ok (.aload_n 0, 1) := by decide +kernel
theorem dX3_noteCargoes_66 : decode cX3_noteCargoes 66 = .ok (.aload_n 0, 1) := by decide +kernel
theorem dX3_noteCargoes_67 : decode cX3_noteCargoes 67 = .ok (.getfield 17, 3) := by decide +kernel
theorem dX3_noteCargoes_70 : decode cX3_noteCargoes 70 = .ok (.iload_n 1, 1) := by decide +kernel
theorem dX3_noteCargoes_71 : decode cX3_noteCargoes 71 = .ok (.aaload, 1) := by decide +kernel
theorem dX3_noteCargoes_72 : decode cX3_noteCargoes 72 = .ok (.invokevirtual 134, 3) := by decide +kernel
theorem dX3_noteCargoes_75 : decode cX3_noteCargoes 75 = .ok (.iastore, 1) := by decide +kernel
theorem dX3_noteCargoes_76 : decode cX3_noteCargoes 76 = .ok (.iinc 1 1, 3) := by decide +kernel
theorem dX3_noteCargoes_79 : decode cX3_noteCargoes 79 = .ok (.goto (-66), 3) := by decide +kernel
theorem dX3_noteCargoes_82 : decode cX3_noteCargoes 82 = .ok (.return_, 1) := by decide +kernel
theorem dX3_noteTanks_0 : decode cX3_noteTanks 0 = .ok (.aload_n 0, 1) := by decide +kernel
theorem dX3_noteTanks_1 : decode cX3_noteTanks 1 = .ok (.getfield 28, 3) := by decide +kernel
theorem dX3_noteTanks_4 : decode cX3_noteTanks 4 = .ok (.aload_n 0, 1) := by decide +kernel
theorem dX3_noteTanks_5 : decode cX3_noteTanks 5 = .ok (.getfield 41, 3) := by decide +kernel
theorem dX3_noteTanks_8 : decode cX3_noteTanks 8 = .ok (.putfield 255, 3) := by decide +kernel
theorem dX3_noteTanks_11 : decode cX3_noteTanks 11 = .ok (.aload_n 0, 1) := by decide +kernel
theorem dX3_noteTanks_12 : decode cX3_noteTanks 12 = .ok (.getfield 28, 3) := by decide +kernel
theorem dX3_noteTanks_15 : decode cX3_noteTanks 15 = .ok (.aload_n 0, 1) := by decide +kernel
theorem dX3_noteTanks_16 : decode cX3_noteTanks 16 = .ok (.getfield 48, 3) := by decide +kernel
theorem dX3_noteTanks_19 : decode cX3_noteTanks 19 = .ok (.putfield 256, 3) := by decide +kernel
theorem dX3_noteTanks_22 : decode cX3_noteTanks 22 = .ok (.iconst 0, 1) := by decide +kernel
theorem dX3_noteTanks_23 : decode cX3_noteTanks 23 = .ok (.istore_n 1, 1) := by decide +kernel
theorem dX3_noteTanks_24 : decode cX3_noteTanks 24 = .ok (.aload_n 0, 1) := by decide +kernel
theorem dX3_noteTanks_25 : decode cX3_noteTanks 25 = .ok (.getfield 41, 3) := by decide +kernel
theorem dX3_noteTanks_28 : decode cX3_noteTanks 28 = .ok (.iconst 1, 1) := by decide +kernel
theorem dX3_noteTanks_29 : decode cX3_noteTanks 29 = .ok (.isub, 1) := by decide +kernel
theorem dX3_noteTanks_30 : decode cX3_noteTanks 30 = .ok (.istore_n 2, 1) := by decide +kernel
theorem dX3_noteTanks_31 : decode cX3_noteTanks 31 = .ok (.iload_n 2, 1) := by decide +kernel
theorem dX3_noteTanks_32 : decode cX3_noteTanks 32 = .ok (.ifCond .lt 157, 3) := by decide +kernel
theorem dX3_noteTanks_35 : decode cX3_noteTanks 35 = .ok (.aload_n 0, 1) := by decide +kernel
theorem dX3_noteTanks_36 : decode cX3_noteTanks 36 = .ok (.getfield 11, 3) := by decide +kernel
theorem dX3_noteTanks_39 : decode cX3_noteTanks 39 = .ok (.iload_n 2, 1) := by decide +kernel
theorem dX3_noteTanks_40 : decode cX3_noteTanks 40 = .ok (.aaload, 1) := by decide +kernel
theorem dX3_noteTanks_41 : decode cX3_noteTanks 41 = .ok (.astore_n 3, 1) := by decide +kernel
theorem dX3_noteTanks_42 : decode cX3_noteTanks 42 = .ok (.iload_n 1, 1) := by decide +kernel
theorem dX3_noteTanks_43 : decode cX3_noteTanks 43 = .ok (.aload_n 3, 1) := by decide +kernel
theorem dX3_noteTanks_44 : decode cX3_noteTanks 44 = .ok (.getfield 64, 3) := by decide +kernel
theorem dX3_noteTanks_47 : decode cX3_noteTanks 47 = .ok (.iadd, 1) := by decide +kernel
theorem dX3_noteTanks_48 : decode cX3_noteTanks 48 = .ok (.istore_n 1, 1) := by decide +kernel
theorem dX3_noteTanks_49 : decode cX3_noteTanks 49 = .ok (.aload_n 0, 1) := by decide +kernel
theorem dX3_noteTanks_50 : decode cX3_noteTanks 50 = .ok (.getfield 28, 3) := by decide +kernel
theorem dX3_noteTanks_53 : decode cX3_noteTanks 53 = .ok (.getfield 257, 3) := by decide +kernel
theorem dX3_noteTanks_56 : decode cX3_noteTanks 56 = .ok (.iload_n 2, 1) := by decide +kernel
theorem dX3_noteTanks_57 : decode cX3_noteTanks 57 = .ok (.iload_n 1, 1) := by decide +kernel
theorem dX3_noteTanks_58 : decode cX3_noteTanks 58 = .ok (.iastore, 1) := by decide +kernel
theorem dX3_noteTanks_59 : decode cX3_noteTanks 59 = .ok (.aload_n 0, 1) := by decide +kernel
theorem dX3_noteTanks_60 : decode cX3_noteTanks 60 = .ok (.getfield 28, 3) := by decide +kernel
theorem dX3_noteTanks_63 : decode cX3_noteTanks 63 = .ok (.getfield 260, 3) := by decide +kernel
theorem dX3_noteTanks_66 : decode cX3_noteTanks 66 = .ok (.iload_n 2, 1) := by decide +kernel
theorem dX3_noteTanks_67 : decode cX3_noteTanks 67 = .ok (.aload_n 3, 1) := by decide +kernel
theorem dX3_noteTanks_68 : decode cX3_noteTanks 68 = .ok (.getfield 64, 3) := by decide +kernel
theorem dX3_noteTanks_71 : decode cX3_noteTanks 71 = .ok (.iastore, 1) := by decide +kernel
theorem dX3_noteTanks_72 : decode cX3_noteTanks 72 = .ok (.aload_n 0, 1) := by decide +kernel
theorem dX3_noteTanks_73 : decode cX3_noteTanks 73 = .ok (.getfield 28, 3) := by decide +kernel
theorem dX3_noteTanks_76 : decode cX3_noteTanks 76 = .ok (.getfield 262, 3) := by decide +kernel
theorem dX3_noteTanks_79 : decode cX3_noteTanks 79 = .ok (.iload_n 2, 1) := by decide +kernel
theorem dX3_noteTanks_80 : decode cX3_noteTanks 80 = .ok (.aload_n 3, 1) := by decide +kernel
theorem dX3_noteTanks_81 : decode cX3_noteTanks 81 = .ok (.getfield 70, 3) := by decide +kernel
theorem dX3_noteTanks_84 : decode cX3_noteTanks 84 = .ok (.iastore, 1) := by decide +kernel
theorem dX3_noteTanks_85 : decode cX3_noteTanks 85 = .ok (.aload_n 0, 1) := by decide +kernel
theorem dX3_noteTanks_86 : decode cX3_noteTanks 86 = .ok (.getfield 28, 3) := by decide +kernel
theorem dX3_noteTanks_89 : decode cX3_noteTanks 89 = .ok (.getfield 264, 3) := by decide +kernel
theorem dX3_noteTanks_92 : decode cX3_noteTanks 92 = .ok (.iload_n 2, 1) := by decide +kernel
theorem dX3_noteTanks_93 : decode cX3_noteTanks 93 = .ok (.aload_n 3, 1) := by decide +kernel
theorem dX3_noteTanks_94 : decode cX3_noteTanks 94 = .ok (.getfield 77, 3) := by decide +kernel
theorem dX3_noteTanks_97 : decode cX3_noteTanks 97 = .ok (.iastore, 1) := by decide +kernel
theorem dX3_noteTanks_98 : decode cX3_noteTanks 98 = .ok (.aload_n 0, 1) := by decide +kernel
theorem dX3_noteTanks_99 : decode cX3_noteTanks 99 = .ok (.getfield 28, 3) := by decide +kernel
theorem dX3_noteTanks_102 : decode cX3_noteTanks 102 = .ok (.getfield 266, 3) := by decide +kernel
theorem dX3_noteTanks_105 : decode cX3_noteTanks 105 = .ok (.iload_n 2, 1) := by decide +kernel
theorem dX3_noteTanks_106 : decode cX3_noteTanks 106 = .ok (.iconst 0, 1) := by decide +kernel
theorem dX3_noteTanks_107 : decode cX3_noteTanks 107 = .ok (.iastore, 1) := by decide +kernel
theorem dX3_noteTanks_108 : decode cX3_noteTanks 108 = .ok (.iconst 0, 1) := by decide +kernel
theorem dX3_noteTanks_109 : decode cX3_noteTanks 109 = .ok (.istore 4, 2) := by decide +kernel
theorem dX3_noteTanks_111 : decode cX3_noteTanks 111 = .ok (.iload 4, 2) := by decide +kernel
theorem dX3_noteTanks_113 : decode cX3_noteTanks 113 = .ok (.aload_n 0, 1) := by decide +kernel
theorem dX3_noteTanks_114 : decode cX3_noteTanks 114 = .ok (.getfield 45, 3) := by decide +kernel
theorem dX3_noteTanks_117 : decode cX3_noteTanks 117 = .ok (.if_icmp .ge 66, 3) := by decide +kernel
theorem dX3_noteTanks_120 : decode cX3_noteTanks 120 = .ok (.aload_n 0, 1) := by decide +kernel
theorem dX3_noteTanks_121 : decode cX3_noteTanks 121 = .ok (.getfield 28, 3) := by decide +kernel
theorem dX3_noteTanks_124 : decode cX3_noteTanks 124 = .ok (.getfield 269, 3) := by decide +kernel
theorem dX3_noteTanks_127 : decode cX3_noteTanks 127 = .ok (.iload_n 2, 1) := by decide +kernel
theorem dX3_noteTanks_128 : decode cX3_noteTanks 128 = .ok (.iconst 4, 1) := by decide +kernel
theorem dX3_noteTanks_129 : decode cX3_noteTanks 129 = .ok (.imul, 1) := by decide +kernel
theorem dX3_noteTanks_130 : decode cX3_noteTanks 130 = .ok (.iload 4, 2) := by decide +kernel
theorem dX3_noteTanks_132 : decode cX3_noteTanks 132 = .ok (.iadd, 1) := by decide +kernel
theorem dX3_noteTanks_133 : decode cX3_noteTanks 133 = .ok (.aload_n 0, 1) := by decide +kernel
theorem dX3_noteTanks_134 : decode cX3_noteTanks 134 = .ok (.aload_n 3, 1) := by decide +kernel
theorem dX3_noteTanks_135 : decode cX3_noteTanks 135 = .ok (.aload_n 0, 1) := by decide +kernel
theorem dX3_noteTanks_136 : decode cX3_noteTanks 136 = .ok (.getfield 17, 3) := by decide +kernel
theorem dX3_noteTanks_139 : decode cX3_noteTanks 139 = .ok (.iload 4, 2) := by decide +kernel
theorem dX3_noteTanks_141 : decode cX3_noteTanks 141 = .ok (.aaload, 1) := by decide +kernel
theorem dX3_noteTanks_142 : decode cX3_noteTanks 142 = .ok (.invokevirtual 137, 3) := by decide +kernel
theorem dX3_noteTanks_145 : decode cX3_noteTanks 145 = .ok (.iastore, 1) := by decide +kernel
theorem dX3_noteTanks_146 : decode cX3_noteTanks 146 = .ok (.aload_n 0, 1) := by decide +kernel
theorem dX3_noteTanks_147 : decode cX3_noteTanks 147 = .ok (.aload_n 3, 1) := by decide +kernel
theorem dX3_noteTanks_148 : decode cX3_noteTanks 148 = .ok (.aload_n 0, 1) := by decide +kernel
theorem dX3_noteTanks_149 : decode cX3_noteTanks 149 = .ok (.getfield 17, 3) := by decide +kernel
theorem dX3_noteTanks_152 : decode cX3_noteTanks 152 = .ok (.iload 4, 2) := by decide +kernel
theorem dX3_noteTanks_154 : decode cX3_noteTanks 154 = .ok (.aaload, 1) := by decide +kernel
theorem dX3_noteTanks_155 : decode cX3_noteTanks 155 = .ok (.invokevirtual 141, 3) := by decide +kernel
theorem dX3_noteTanks_158 : decode cX3_noteTanks 158 = .ok (.ifCond .ne 19, 3) := by decide +kernel
theorem dX3_noteTanks_161 : decode cX3_noteTanks 161 = .ok (.aload_n 0, 1) := by decide +kernel
theorem dX3_noteTanks_162 : decode cX3_noteTanks 162 = .ok (.getfield 28, 3) := by decide +kernel
theorem dX3_noteTanks_165 : decode cX3_noteTanks 165 = .ok (.getfield 266, 3) := by decide +kernel
theorem dX3_noteTanks_168 : decode cX3_noteTanks 168 = .ok (.iload_n 2, 1) := by decide +kernel
theorem dX3_noteTanks_169 : decode cX3_noteTanks 169 = .ok (.dup2, 1) := by decide +kernel
theorem dX3_noteTanks_170 : decode cX3_noteTanks 170 = .ok (.iaload, 1) := by decide +kernel
theorem dX3_noteTanks_171 : decode cX3_noteTanks 171 = .ok (.iconst 1, 1) := by decide +kernel
theorem dX3_noteTanks_172 : decode cX3_noteTanks 172 = .ok (.iload 4, 2) := by decide +kernel
theorem dX3_noteTanks_174 : decode cX3_noteTanks 174 = .ok (.ishl, 1) := by decide +kernel
theorem dX3_noteTanks_175 : decode cX3_noteTanks 175 = .ok (.ior, 1) := by decide +kernel
theorem dX3_noteTanks_176 : decode cX3_noteTanks 176 = .ok (.iastore, 1) := by decide +kernel
theorem dX3_noteTanks_177 : decode cX3_noteTanks 177 = .ok (.iinc 4 1, 3) := by decide +kernel
theorem dX3_noteTanks_180 : decode cX3_noteTanks 180 = .ok (.goto (-69), 3) := by decide +kernel
theorem dX3_noteTanks_183 : decode cX3_noteTanks 183 = .ok (.iinc 2 (-1), 3) := by decide +kernel
theorem dX3_noteTanks_186 : decode cX3_noteTanks 186 = .ok (.goto (-155), 3) := by decide +kernel
theorem dX3_noteTanks_189 : decode cX3_noteTanks 189 = .ok (.return_, 1) := by decide +kernel
theorem dX3_tryTank_0 : decode cX3_tryTank 0 = .ok (.iload_n 1, 1) := by decide +kernel
theorem dX3_tryTank_1 : decode cX3_tryTank 1 = .ok (.aload_n 0, 1) := by decide +kernel
theorem dX3_tryTank_2 : decode cX3_tryTank 2 = .ok (.getfield 255, 3) := by decide +kernel
theorem dX3_tryTank_5 : decode cX3_tryTank 5 = .ok (.if_icmp .lt 13, 3) := by decide +kernel
theorem dX3_tryTank_8 : decode cX3_tryTank 8 = .ok (.iload_n 3, 1) := by decide +kernel
theorem dX3_tryTank_9 : decode cX3_tryTank 9 = .ok (.ifCond .ne 8, 3) := by decide +kernel
theorem dX3_tryTank_12 : decode cX3_tryTank 12 = .ok (.aload_n 0, 1) := by decide +kernel
theorem dX3_tryTank_13 : decode cX3_tryTank 13 = .ok (.iload_n 2, 1) := by decide +kernel
theorem dX3_tryTank_14 : decode cX3_tryTank 14 = .ok (.invokevirtual 272, 3) := by decide +kernel
theorem dX3_tryTank_17 : decode cX3_tryTank 17 = .ok (.return_, 1) := by decide +kernel
theorem dX3_tryTank_18 : decode cX3_tryTank 18 = .ok (.iload_n 3, 1) := by decide +kernel
theorem dX3_tryTank_19 : decode cX3_tryTank 19 = .ok (.aload_n 0, 1) := by decide +kernel
theorem dX3_tryTank_20 : decode cX3_tryTank 20 = .ok (.getfield 257, 3) := by decide +kernel
theorem dX3_tryTank_23 : decode cX3_tryTank 23 = .ok (.iload_n 1, 1) := by decide +kernel
theorem dX3_tryTank_24 : decode cX3_tryTank 24 = .ok (.iaload, 1) := by decide +kernel
theorem dX3_tryTank_25 : decode cX3_tryTank 25 = .ok (.if_icmp .le 4, 3) := by decide +kernel
theorem dX3_tryTank_28 : decode cX3_tryTank 28 = .ok (.return_, 1) := by decide +kernel
theorem dX3_tryTank_29 : decode cX3_tryTank 29 = .ok (.aload_n 0, 1) := by decide +kernel
theorem dX3_tryTank_30 : decode cX3_tryTank 30 = .ok (.iload_n 1, 1) := by decide +kernel
theorem dX3_tryTank_31 : decode cX3_tryTank 31 = .ok (.invokevirtual 275, 3) := by decide +kernel
theorem dX3_tryTank_34 : decode cX3_tryTank 34 = .ok (.istore 4, 2) := by decide +kernel
theorem dX3_tryTank_36 : decode cX3_tryTank 36 = .ok (.iconst 0, 1) := by decide +kernel
theorem dX3_tryTank_37 : decode cX3_tryTank 37 = .ok (.istore 5, 2) := by decide +kernel
theorem dX3_tryTank_39 : decode cX3_tryTank 39 = .ok (.iload 5, 2) := by decide +kernel
theorem dX3_tryTank_41 : decode cX3_tryTank 41 = .ok (.aload_n 0, 1) := by decide +kernel
theorem dX3_tryTank_42 : decode cX3_tryTank 42 = .ok (.getfield 246, 3) := by decide +kernel
theorem dX3_tryTank_45 : decode cX3_tryTank 45 = .ok (.if_icmp .ge 129, 3) := by decide +kernel
theorem dX3_tryTank_48 : decode cX3_tryTank 48 = .ok (.iload 4, 2) := by decide +kernel
theorem dX3_tryTank_50 : decode cX3_tryTank 50 = .ok (.iload 5, 2) := by decide +kernel
theorem dX3_tryTank_52 : decode cX3_tryTank 52 = .ok (.invokestatic 80, 3) := by decide +kernel
theorem dX3_tryTank_55 : decode cX3_tryTank 55 = .ok (.ifCond .eq 113, 3) := by decide +kernel
theorem dX3_tryTank_58 : decode cX3_tryTank 58 = .ok (.aload_n 0, 1) := by decide +kernel
theorem dX3_tryTank_59 : decode cX3_tryTank 59 = .ok (.getfield 249, 3) := by decide +kernel
theorem dX3_tryTank_62 : decode cX3_tryTank 62 = .ok (.iload 5, 2) := by decide +kernel
theorem dX3_tryTank_64 : decode cX3_tryTank 64 = .ok (.iaload, 1) := by decide +kernel
theorem dX3_tryTank_65 : decode cX3_tryTank 65 = .ok (.ifCond .le 103, 3) := by decide +kernel
theorem dX3_tryTank_68 : decode cX3_tryTank 68 = .ok (.aload_n 0, 1) := by decide +kernel
theorem dX3_tryTank_69 : decode cX3_tryTank 69 = .ok (.getfield 260, 3) := by decide +kernel
theorem dX3_tryTank_72 : decode cX3_tryTank 72 = .ok (.iload_n 1, 1) := by decide +kernel
theorem dX3_tryTank_73 : decode cX3_tryTank 73 = .ok (.iaload, 1) := by decide +kernel
theorem dX3_tryTank_74 : decode cX3_tryTank 74 = .ok (.aload_n 0, 1) := by decide +kernel
theorem dX3_tryTank_75 : decode cX3_tryTank 75 = .ok (.getfield 249, 3) := by decide +kernel
theorem dX3_tryTank_78 : decode cX3_tryTank 78 = .ok (.iload 5, 2) := by decide +kernel
theorem dX3_tryTank_80 : decode cX3_tryTank 80 = .ok (.iaload, 1) := by decide +kernel
theorem dX3_tryTank_81 : decode cX3_tryTank 81 = .ok (.invokestatic 224, 3) := by decide +kernel
theorem dX3_tryTank_84 : decode cX3_tryTank 84 = .ok (.istore 6, 2) := by decide +kernel
theorem dX3_tryTank_86 : decode cX3_tryTank 86 = .ok (.iload_n 2, 1) := by decide +kernel
theorem dX3_tryTank_87 : decode cX3_tryTank 87 = .ok (.iload 5, 2) := by decide +kernel
theorem dX3_tryTank_89 : decode cX3_tryTank 89 = .ok (.invokestatic 80, 3) := by decide +kernel
theorem dX3_tryTank_92 : decode cX3_tryTank 92 = .ok (.ifCond .eq 7, 3) := by decide +kernel
theorem dX3_tryTank_95 : decode cX3_tryTank 95 = .ok (.iconst 0, 1) := by decide +kernel
theorem dX3_tryTank_96 : decode cX3_tryTank 96 = .ok (.goto 10, 3) := by decide +kernel
theorem dX3_tryTank_99 : decode cX3_tryTank 99 = .ok (.aload_n 0, 1) := by decide +kernel
theorem dX3_tryTank_100 : decode cX3_tryTank 100 = .ok (.getfield 247, 3) := by decide +kernel
theorem dX3_tryTank_103 : decode cX3_tryTank 103 = .ok (.iload 5, 2) := by decide +kernel
theorem dX3_tryTank_105 : decode cX3_tryTank 105 = .ok (.iaload, 1) := by decide +kernel
theorem dX3_tryTank_106 : decode cX3_tryTank 106 = .ok (.istore 7, 2) := by decide +kernel
theorem dX3_tryTank_108 : decode cX3_tryTank 108 = .ok (.aload_n 0, 1) := by decide +kernel
theorem dX3_tryTank_109 : decode cX3_tryTank 109 = .ok (.getfield 278, 3) := by decide +kernel
theorem dX3_tryTank_112 : decode cX3_tryTank 112 = .ok (.iload_n 1, 1) := by decide +kernel
theorem dX3_tryTank_113 : decode cX3_tryTank 113 = .ok (.iload 5, 2) := by decide +kernel
theorem dX3_tryTank_115 : decode cX3_tryTank 115 = .ok (.iastore, 1) := by decide +kernel
theorem dX3_tryTank_116 : decode cX3_tryTank 116 = .ok (.aload_n 0, 1) := by decide +kernel
theorem dX3_tryTank_117 : decode cX3_tryTank 117 = .ok (.getfield 281, 3) := by decide +kernel
theorem dX3_tryTank_120 : decode cX3_tryTank 120 = .ok (.iload_n 1, 1) := by decide +kernel
theorem dX3_tryTank_121 : decode cX3_tryTank 121 = .ok (.iload 6, 2) := by decide +kernel
theorem dX3_tryTank_123 : decode cX3_tryTank 123 = .ok (.iastore, 1) := by decide +kernel
theorem dX3_tryTank_124 : decode cX3_tryTank 124 = .ok (.aload_n 0, 1) := by decide +kernel
theorem dX3_tryTank_125 : decode cX3_tryTank 125 = .ok (.getfield 249, 3) := by decide +kernel
theorem dX3_tryTank_128 : decode cX3_tryTank 128 = .ok (.iload 5, 2) := by decide +kernel
theorem dX3_tryTank_130 : decode cX3_tryTank 130 = .ok (.dup2, 1) := by decide +kernel
theorem dX3_tryTank_131 : decode cX3_tryTank 131 = .ok (.iaload, 1) := by decide +kernel
theorem dX3_tryTank_132 : decode cX3_tryTank 132 = .ok (.iload 6, 2) := by decide +kernel
theorem dX3_tryTank_134 : decode cX3_tryTank 134 = .ok (.isub, 1) := by decide +kernel
theorem dX3_tryTank_135 : decode cX3_tryTank 135 = .ok (.iastore, 1) := by decide +kernel
theorem dX3_tryTank_136 : decode cX3_tryTank 136 = .ok (.aload_n 0, 1) := by decide +kernel
theorem dX3_tryTank_137 : decode cX3_tryTank 137 = .ok (.iload_n 1, 1) := by decide +kernel
theorem dX3_tryTank_138 : decode cX3_tryTank 138 = .ok (.iconst 1, 1) := by decide +kernel
theorem dX3_tryTank_139 : decode cX3_tryTank 139 = .ok (.iadd, 1) := by decide +kernel
theorem dX3_tryTank_140 : decode cX3_tryTank 140 = .ok (.iload_n 2, 1) := by decide +kernel
theorem dX3_tryTank_141 : decode cX3_tryTank 141 = .ok (.iconst 1, 1) := by decide +kernel
theorem dX3_tryTank_142 : decode cX3_tryTank 142 = .ok (.iload 5, 2) := by decide +kernel
theorem dX3_tryTank_144 : decode cX3_tryTank 144 = .ok (.ishl, 1) := by decide +kernel
theorem dX3_tryTank_145 : decode cX3_tryTank 145 = .ok (.ior, 1) := by decide +kernel
theorem dX3_tryTank_146 : decode cX3_tryTank 146 = .ok (.iload_n 3, 1) := by decide +kernel
theorem dX3_tryTank_147 : decode cX3_tryTank 147 = .ok (.iload 7, 2) := by decide +kernel
theorem dX3_tryTank_149 : decode cX3_tryTank 149 = .ok (.iadd, 1) := by decide +kernel
theorem dX3_tryTank_150 : decode cX3_tryTank 150 = .ok (.iload 6, 2) := by decide +kernel
theorem dX3_tryTank_152 : decode cX3_tryTank 152 = .ok (.isub, 1) := by decide +kernel
theorem dX3_tryTank_153 : decode cX3_tryTank 153 = .ok (.invokestatic 242, 3) := by decide +kernel
theorem dX3_tryTank_156 : decode cX3_tryTank 156 = .ok (.aload_n 0, 1) := by decide +kernel
theorem dX3_tryTank_157 : decode cX3_tryTank 157 = .ok (.getfield 249, 3) := by decide +kernel
theorem dX3_tryTank_160 : decode cX3_tryTank 160 = .ok (.iload 5, 2) := by decide +kernel
theorem dX3_tryTank_162 : decode cX3_tryTank 162 = .ok (.dup2, 1) := by decide +kernel
theorem dX3_tryTank_163 : decode cX3_tryTank 163 = .ok (.iaload, 1) := by decide +kernel
theorem dX3_tryTank_164 : decode cX3_tryTank 164 = .ok (.iload 6, 2) := by decide +kernel
theorem dX3_tryTank_166 : decode cX3_tryTank 166 = .ok (.iadd, 1) := by decide +kernel
theorem dX3_tryTank_167 : decode cX3_tryTank 167 = .ok (.iastore, 1) := by decide +kernel
theorem dX3_tryTank_168 : decode cX3_tryTank 168 = .ok (.iinc 5 1, 3) := by decide +kernel
theorem dX3_tryTank_171 : decode cX3_tryTank 171 = .ok (.goto (-132), 3) := by decide +kernel
theorem dX3_tryTank_174 : decode cX3_tryTank 174 = .ok (.aload_n 0, 1) := by decide +kernel
theorem dX3_tryTank_175 : decode cX3_tryTank 175 = .ok (.getfield 278, 3) := by decide +kernel
theorem dX3_tryTank_178 : decode cX3_tryTank 178 = .ok (.iload_n 1, 1) := by decide +kernel
theorem dX3_tryTank_179 : decode cX3_tryTank 179 = .ok (.bipush (-9), 2) := by decide +kernel
theorem dX3_tryTank_181 : decode cX3_tryTank 181 = .ok (.iastore, 1) := by decide +kernel
theorem dX3_tryTank_182 : decode cX3_tryTank 182 = .ok (.aload_n 0, 1) := by decide +kernel
theorem dX3_tryTank_183 : decode cX3_tryTank 183 = .ok (.getfield 281, 3) := by decide +kernel
theorem dX3_tryTank_186 : decode cX3_tryTank 186 = .ok (.iload_n 1, 1) := by decide +kernel
theorem dX3_tryTank_187 : decode cX3_tryTank 187 = .ok (.iconst 0, 1) := by decide +kernel
theorem dX3_tryTank_188 : decode cX3_tryTank 188 = .ok (.iastore, 1) := by decide +kernel
theorem dX3_tryTank_189 : decode cX3_tryTank 189 = .ok (.aload_n 0, 1) := by decide +kernel
theorem dX3_tryTank_190 : decode cX3_tryTank 190 = .ok (.iload_n 1, 1) := by decide +kernel
theorem dX3_tryTank_191 : decode cX3_tryTank 191 = .ok (.iconst 1, 1) := by decide +kernel
theorem dX3_tryTank_192 : decode cX3_tryTank 192 = .ok (.iadd, 1) := by decide +kernel
theorem dX3_tryTank_193 : decode cX3_tryTank 193 = .ok (.iload_n 2, 1) := by decide +kernel
theorem dX3_tryTank_194 : decode cX3_tryTank 194 = .ok (.iload_n 3, 1) := by decide +kernel
theorem dX3_tryTank_195 : decode cX3_tryTank 195 = .ok (.invokestatic 242, 3) := by decide +kernel
theorem dX3_tryTank_198 : decode cX3_tryTank 198 = .ok (.return_, 1) := by decide +kernel
theorem dX0_init_0 : decode cX0_init 0 = .ok (.aload_n 0, 1) := by decide +kernel
theorem dX0_init_1 : decode cX0_init 1 = .ok (.invokespecial 1, 3) := by decide +kernel
theorem dX0_init_4 : decode cX0_init 4 = .ok (.aload_n 0, 1) := by decide +kernel
theorem dX0_init_5 : decode cX0_init 5 = .ok (.iconst 0, 1) := by decide +kernel
theorem dX0_init_6 : decode cX0_init 6 = .ok (.putfield 7, 3) := by decide +kernel
theorem dX0_init_9 : decode cX0_init 9 = .ok (.aload_n 0, 1) := by decide +kernel
theorem dX0_init_10 : decode cX0_init 10 = .ok (.iconst 0, 1) := by decide +kernel
theorem dX0_init_11 : decode cX0_init 11 = .ok (.putfield 13, 3) := by decide +kernel
theorem dX0_init_14 : decode cX0_init 14 = .ok (.aload_n 0, 1) := by decide +kernel
theorem dX0_init_15 : decode cX0_init 15 = .ok (.iconst 0, 1) := by decide +kernel
theorem dX0_init_16 : decode cX0_init 16 = .ok (.putfield 16, 3) := by decide +kernel
theorem dX0_init_19 : decode cX0_init 19 = .ok (.aload_n 0, 1) := by decide +kernel
theorem dX0_init_20 : decode cX0_init 20 = .ok (.iconst 0, 1) := by decide +kernel
theorem dX0_init_21 : decode cX0_init 21 = .ok (.putfield 19, 3) := by decide +kernel
theorem dX0_init_24 : decode cX0_init 24 = .ok (.aload_n 0, 1) := by decide +kernel
theorem dX0_init_25 : decode cX0_init 25 = .ok (.iconst 0, 1) := by decide +kernel
theorem dX0_init_26 : decode cX0_init 26 = .ok (.putfield 22, 3) := by decide +kernel
theorem dX0_init_29 : decode cX0_init 29 = .ok (.aload_n 0, 1) := by decide +kernel
theorem dX0_init_30 : decode cX0_init 30 = .ok (.iconst 0, 1) := by decide +kernel
theorem dX0_init_31 : decode cX0_init 31 = .ok (.putfield 25, 3) := by decide +kernel
theorem dX0_init_34 : decode cX0_init 34 = .ok (.return_, 1) := by decide +kernel
theorem dX1_init_0 : decode cX1_init 0 = .ok (.aload_n 0, 1) := by decide +kernel
theorem dX1_init_1 : decode cX1_init 1 = .ok (.invokespecial 3, 3) := by decide +kernel
theorem dX1_init_4 : decode cX1_init 4 = .ok (.aload_n 0, 1) := by decide +kernel
theorem dX1_init_5 : decode cX1_init 5 = .ok (.iconst 0, 1) := by decide +kernel
theorem dX1_init_6 : decode cX1_init 6 = .ok (.putfield 9, 3) := by decide +kernel
theorem dX1_init_9 : decode cX1_init 9 = .ok (.aload_n 0, 1) := by decide +kernel
theorem dX1_init_10 : decode cX1_init 10 = .ok (.iconst 0, 1) := by decide +kernel
theorem dX1_init_11 : decode cX1_init 11 = .ok (.putfield 15, 3) := by decide +kernel
theorem dX1_init_14 : decode cX1_init 14 = .ok (.aload_n 0, 1) := by decide +kernel
theorem dX1_init_15 : decode cX1_init 15 = .ok (.iconst 0, 1) := by decide +kernel
theorem dX1_init_16 : decode cX1_init 16 = .ok (.putfield 18, 3) := by decide +kernel
theorem dX1_init_19 : decode cX1_init 19 = .ok (.aload_n 0, 1) := by decide +kernel
theorem dX1_init_20 : decode cX1_init 20 = .ok (.bipush 6, 2) := by decide +kernel
theorem dX1_init_22 : decode cX1_init 22 = .ok (.newarray .int, 2) := by decide +kernel
theorem dX1_init_24 : decode cX1_init 24 = .ok (.putfield 21, 3) := by decide +kernel
theorem dX1_init_27 : decode cX1_init 27 = .ok (.aload_n 0, 1) := by decide +kernel
theorem dX1_init_28 : decode cX1_init 28 = .ok (.bipush 6, 2) := by decide +kernel
theorem dX1_init_30 : decode cX1_init 30 = .ok (.newarray .int, 2) := by decide +kernel
theorem dX1_init_32 : decode cX1_init 32 = .ok (.putfield 25, 3) := by decide +kernel
theorem dX1_init_35 : decode cX1_init 35 = .ok (.aload_n 0, 1) := by decide +kernel
theorem dX1_init_36 : decode cX1_init 36 = .ok (.bipush 6, 2) := by decide +kernel
theorem dX1_init_38 : decode cX1_init 38 = .ok (.newarray .int, 2) := by decide +kernel
theorem dX1_init_40 : decode cX1_init 40 = .ok (.putfield 28, 3) := by decide +kernel
theorem dX1_init_43 : decode cX1_init 43 = .ok (.aload_n 0, 1) := by decide +kernel
theorem dX1_init_44 : decode cX1_init 44 = .ok (.bipush 6, 2) := by decide +kernel
theorem dX1_init_46 : decode cX1_init 46 = .ok (.newarray .int, 2) := by decide +kernel
theorem dX1_init_48 : decode cX1_init 48 = .ok (.putfield 31, 3) := by decide +kernel
theorem dX1_init_51 : decode cX1_init 51 = .ok (.aload_n 0, 1) := by decide +kernel
theorem dX1_init_52 : decode cX1_init 52 = .ok (.bipush 6, 2) := by decide +kernel
theorem dX1_init_54 : decode cX1_init 54 = .ok (.newarray .int, 2) := by decide +kernel
theorem dX1_init_56 : decode cX1_init 56 = .ok (.putfield 34, 3) := by decide +kernel
theorem dX1_init_59 : decode cX1_init 59 = .ok (.aload_n 0, 1) := by decide +kernel
theorem dX1_init_60 : decode cX1_init 60 = .ok (.bipush 24, 2) := by decide +kernel
theorem dX1_init_62 : decode cX1_init 62 = .ok (.newarray .int, 2) := by decide +kernel
theorem dX1_init_64 : decode cX1_init 64 = .ok (.putfield 37, 3) := by decide +kernel
theorem dX1_init_67 : decode cX1_init 67 = .ok (.aload_n 0, 1) := by decide +kernel
theorem dX1_init_68 : decode cX1_init 68 = .ok (.iconst 4, 1) := by decide +kernel
theorem dX1_init_69 : decode cX1_init 69 = .ok (.newarray .int, 2) := by decide +kernel
theorem dX1_init_71 : decode cX1_init 71 = .ok (.putfield 40, 3) := by decide +kernel
theorem dX1_init_74 : decode cX1_init 74 = .ok (.aload_n 0, 1) := by decide +kernel
theorem dX1_init_75 : decode cX1_init 75 = .ok (.iconst 4, 1) := by decide +kernel
theorem dX1_init_76 : decode cX1_init 76 = .ok (.newarray .int, 2) := by decide +kernel
theorem dX1_init_78 : decode cX1_init 78 = .ok (.putfield 43, 3) := by decide +kernel
theorem dX1_init_81 : decode cX1_init 81 = .ok (.aload_n 0, 1) := by decide +kernel
theorem dX1_init_82 : decode cX1_init 82 = .ok (.iconst 4, 1) := by decide +kernel
theorem dX1_init_83 : decode cX1_init 83 = .ok (.newarray .int, 2) := by decide +kernel
theorem dX1_init_85 : decode cX1_init 85 = .ok (.putfield 46, 3) := by decide +kernel
theorem dX1_init_88 : decode cX1_init 88 = .ok (.aload_n 0, 1) := by decide +kernel
theorem dX1_init_89 : decode cX1_init 89 = .ok (.bipush 6, 2) := by decide +kernel
theorem dX1_init_91 : decode cX1_init 91 = .ok (.newarray .int, 2) := by decide +kernel
theorem dX1_init_93 : decode cX1_init 93 = .ok (.putfield 49, 3) := by decide +kernel
theorem dX1_init_96 : decode cX1_init 96 = .ok (.aload_n 0, 1) := by decide +kernel
theorem dX1_init_97 : decode cX1_init 97 = .ok (.bipush 6, 2) := by decide +kernel
theorem dX1_init_99 : decode cX1_init 99 = .ok (.newarray .int, 2) := by decide +kernel
theorem dX1_init_101 : decode cX1_init 101 = .ok (.putfield 52, 3) := by decide +kernel
theorem dX1_init_104 : decode cX1_init 104 = .ok (.aload_n 0, 1) := by decide +kernel
theorem dX1_init_105 : decode cX1_init 105 = .ok (.bipush 16, 2) := by decide +kernel
theorem dX1_init_107 : decode cX1_init 107 = .ok (.newarray .int, 2) := by decide +kernel
theorem dX1_init_109 : decode cX1_init 109 = .ok (.putfield 55, 3) := by decide +kernel
theorem dX1_init_112 : decode cX1_init 112 = .ok (.aload_n 0, 1) := by decide +kernel
theorem dX1_init_113 : decode cX1_init 113 = .ok (.bipush 16, 2) := by decide +kernel
theorem dX1_init_115 : decode cX1_init 115 = .ok (.newarray .int, 2) := by decide +kernel
theorem dX1_init_117 : decode cX1_init 117 = .ok (.putfield 58, 3) := by decide +kernel
theorem dX1_init_120 : decode cX1_init 120 = .ok (.aload_n 0, 1) := by decide +kernel
theorem dX1_init_121 : decode cX1_init 121 = .ok (.bipush 16, 2) := by decide +kernel
theorem dX1_init_123 : decode cX1_init 123 = .ok (.newarray .int, 2) := by decide +kernel
theorem dX1_init_125 : decode cX1_init 125 = .ok (.putfield 61, 3) := by decide +kernel
theorem dX1_init_128 : decode cX1_init 128 = .ok (.aload_n 0, 1) := by decide +kernel
theorem dX1_init_129 : decode cX1_init 129 = .ok (.bipush 16, 2) := by decide +kernel
theorem dX1_init_131 : decode cX1_init 131 = .ok (.newarray .int, 2) := by decide +kernel
theorem dX1_init_133 : decode cX1_init 133 = .ok (.putfield 64, 3) := by decide +kernel
theorem dX1_init_136 : decode cX1_init 136 = .ok (.aload_n 0, 1) := by decide +kernel
theorem dX1_init_137 : decode cX1_init 137 = .ok (.bipush 96, 2) := by decide +kernel
theorem dX1_init_139 : decode cX1_init 139 = .ok (.newarray .int, 2) := by decide +kernel
theorem dX1_init_141 : decode cX1_init 141 = .ok (.putfield 67, 3) := by decide +kernel
theorem dX1_init_144 : decode cX1_init 144 = .ok (.aload_n 0, 1) := by decide +kernel
theorem dX1_init_145 : decode cX1_init 145 = .ok (.bipush 96, 2) := by decide +kernel
theorem dX1_init_147 : decode cX1_init 147 = .ok (.newarray .int, 2) := by decide +kernel
theorem dX1_init_149 : decode cX1_init 149 = .ok (.putfield 70, 3) := by decide +kernel
theorem dX1_init_152 : decode cX1_init 152 = .ok (.return_, 1) := by decide +kernel
theorem dX1_openTo_0 : decode cX1_openTo 0 = .ok (.aload_n 0, 1) := by decide +kernel
theorem dX1_openTo_1 : decode cX1_openTo 1 = .ok (.getfield 34, 3) := by decide +kernel
theorem dX1_openTo_4 : decode cX1_openTo 4 = .ok (.iload_n 1, 1) := by decide +kernel
theorem dX1_openTo_5 : decode cX1_openTo 5 = .ok (.iaload, 1) := by decide +kernel
theorem dX1_openTo_6 : decode cX1_openTo 6 = .ok (.istore_n 2, 1) := by decide +kernel
theorem dX1_openTo_7 : decode cX1_openTo 7 = .ok (.iconst 0, 1) := by decide +kernel
theorem dX1_openTo_8 : decode cX1_openTo 8 = .ok (.istore_n 3, 1) := by decide +kernel
theorem dX1_openTo_9 : decode cX1_openTo 9 = .ok (.iload_n 3, 1) := by decide +kernel
theorem dX1_openTo_10 : decode cX1_openTo 10 = .ok (.iload_n 1, 1) := by decide +kernel
theorem dX1_openTo_11 : decode cX1_openTo 11 = .ok (.if_icmp .ge 49, 3) := by decide +kernel
theorem dX1_openTo_14 : decode cX1_openTo 14 = .ok (.aload_n 0, 1) := by decide +kernel
theorem dX1_openTo_15 : decode cX1_openTo 15 = .ok (.getfield 28, 3) := by decide +kernel
theorem dX1_openTo_18 : decode cX1_openTo 18 = .ok (.iload_n 1, 1) := by decide +kernel
theorem dX1_openTo_19 : decode cX1_openTo 19 = .ok (.iaload, 1) := by decide +kernel
theorem dX1_openTo_20 : decode cX1_openTo 20 = .ok (.iload_n 3, 1) := by decide +kernel
theorem dX1_openTo_21 : decode cX1_openTo 21 = .ok (.invokestatic 73, 3) := by decide +kernel
theorem dX1_openTo_24 : decode cX1_openTo 24 = .ok (.ifCond .eq 30, 3) := by decide +kernel
theorem dX1_openTo_27 : decode cX1_openTo 27 = .ok (.aload_n 0, 1) := by decide +kernel
theorem dX1_openTo_28 : decode cX1_openTo 28 = .ok (.getfield 49, 3) := by decide +kernel
theorem dX1_openTo_31 : decode cX1_openTo 31 = .ok (.iload_n 3, 1) := by decide +kernel
theorem dX1_openTo_32 : decode cX1_openTo 32 = .ok (.iaload, 1) := by decide +kernel
theorem dX1_openTo_33 : decode cX1_openTo 33 = .ok (.bipush (-9), 2) := by decide +kernel
theorem dX1_openTo_35 : decode cX1_openTo 35 = .ok (.if_icmp .eq 19, 3) := by decide +kernel
theorem dX1_openTo_38 : decode cX1_openTo 38 = .ok (.iload_n 2, 1) := by decide +kernel
theorem dX1_openTo_39 : decode cX1_openTo 39 = .ok (.aload_n 0, 1) := by decide +kernel
theorem dX1_openTo_40 : decode cX1_openTo 40 = .ok (.getfield 43, 3) := by decide +kernel
theorem dX1_openTo_43 : decode cX1_openTo 43 = .ok (.aload_n 0, 1) := by decide +kernel
theorem dX1_openTo_44 : decode cX1_openTo 44 = .ok (.getfield 49, 3) := by decide +kernel
theorem dX1_openTo_47 : decode cX1_openTo 47 = .ok (.iload_n 3, 1) := by decide +kernel
theorem dX1_openTo_48 : decode cX1_openTo 48 = .ok (.iaload, 1) := by decide +kernel
theorem dX1_openTo_49 : decode cX1_openTo 49 = .ok (.iaload, 1) := by decide +kernel
theorem dX1_openTo_50 : decode cX1_openTo 50 = .ok (.iconst (-1), 1) := by decide +kernel
theorem dX1_openTo_51 : decode cX1_openTo 51 = .ok (.ixor, 1) := by decide +kernel
theorem dX1_openTo_52 : decode cX1_openTo 52 = .ok (.iand, 1) := by decide +kernel
theorem dX1_openTo_53 : decode cX1_openTo 53 = .ok (.istore_n 2, 1) := by decide +kernel
theorem dX1_openTo_54 : decode cX1_openTo 54 = .ok (.iinc 3 1, 3) := by decide +kernel
theorem dX1_openTo_57 : decode cX1_openTo 57 = .ok (.goto (-48), 3) := by decide +kernel
theorem dX1_openTo_60 : decode cX1_openTo 60 = .ok (.iload_n 2, 1) := by decide +kernel
theorem dX1_openTo_61 : decode cX1_openTo 61 = .ok (.ireturn, 1) := by decide +kernel
theorem dX1_keepIfBetter_0 : decode cX1_keepIfBetter 0 = .ok (.iconst 0, 1) := by decide +kernel
theorem dX1_keepIfBetter_1 : decode cX1_keepIfBetter 1 = .ok (.istore_n 2, 1) := by decide +kernel
theorem dX1_keepIfBetter_2 : decode cX1_keepIfBetter 2 = .ok (.iconst 0, 1) := by decide +kernel
theorem dX1_keepIfBetter_3 : decode cX1_keepIfBetter 3 = .ok (.istore_n 3, 1) := by decide +kernel
theorem dX1_keepIfBetter_4 : decode cX1_keepIfBetter 4 = .ok (.iconst 0, 1) := by decide +kernel
theorem dX1_keepIfBetter_5 : decode cX1_keepIfBetter 5 = .ok (.istore 4, 2) := by decide +kernel
theorem dX1_keepIfBetter_7 : decode cX1_keepIfBetter 7 = .ok (.iconst 0, 1) := by decide +kernel
theorem dX1_keepIfBetter_8 : decode cX1_keepIfBetter 8 = .ok (.istore 5, 2) := by decide +kernel
theorem dX1_keepIfBetter_10 : decode cX1_keepIfBetter 10 = .ok (.iload 5, 2) := by decide +kernel
theorem dX1_keepIfBetter_12 : decode cX1_keepIfBetter 12 = .ok (.aload_n 0, 1) := by decide +kernel
theorem dX1_keepIfBetter_13 : decode cX1_keepIfBetter 13 = .ok (.getfield 9, 3) := by decide +kernel
theorem dX1_keepIfBetter_16 : decode cX1_keepIfBetter 16 = .ok (.if_icmp .ge 62, 3) := by decide +kernel
theorem dX1_keepIfBetter_19 : decode cX1_keepIfBetter 19 = .ok (.aload_n 0, 1) := by decide +kernel
theorem dX1_keepIfBetter_20 : decode cX1_keepIfBetter 20 = .ok (.getfield 49, 3) := by decide +kernel
theorem dX1_keepIfBetter_23 : decode cX1_keepIfBetter 23 = .ok (.iload 5, 2) := by decide +kernel
theorem dX1_keepIfBetter_25 : decode cX1_keepIfBetter 25 = .ok (.iaload, 1) := by decide +kernel
theorem dX1_keepIfBetter_26 : decode cX1_keepIfBetter 26 = .ok (.bipush (-9), 2) := by decide +kernel
theorem dX1_keepIfBetter_28 : decode cX1_keepIfBetter 28 = .ok (.if_icmp .eq 44, 3) := by decide +kernel
theorem dX1_keepIfBetter_31 : decode cX1_keepIfBetter 31 = .ok (.iload_n 2, 1) := by decide +kernel
theorem dX1_keepIfBetter_32 : decode cX1_keepIfBetter 32 = .ok (.aload_n 0, 1) := by decide +kernel
theorem dX1_keepIfBetter_33 : decode cX1_keepIfBetter 33 = .ok (.getfield 52, 3) := by decide +kernel
theorem dX1_keepIfBetter_36 : decode cX1_keepIfBetter 36 = .ok (.iload 5, 2) := by decide +kernel
theorem dX1_keepIfBetter_38 : decode cX1_keepIfBetter 38 = .ok (.iaload, 1) := by decide +kernel
theorem dX1_keepIfBetter_39 : decode cX1_keepIfBetter 39 = .ok (.aload_n 0, 1) := by decide +kernel
theorem dX1_keepIfBetter_40 : decode cX1_keepIfBetter 40 = .ok (.getfield 25, 3) := by decide +kernel
theorem dX1_keepIfBetter_43 : decode cX1_keepIfBetter 43 = .ok (.iload 5, 2) := by decide +kernel
theorem dX1_keepIfBetter_45 : decode cX1_keepIfBetter 45 = .ok (.iaload, 1) := by decide +kernel
theorem dX1_keepIfBetter_46 : decode cX1_keepIfBetter 46 = .ok (.imul, 1) := by decide +kernel
theorem dX1_keepIfBetter_47 : decode cX1_keepIfBetter 47 = .ok (.iadd, 1) := by decide +kernel
theorem dX1_keepIfBetter_48 : decode cX1_keepIfBetter 48 = .ok (.istore_n 2, 1) := by decide +kernel
theorem dX1_keepIfBetter_49 : decode cX1_keepIfBetter 49 = .ok (.iload_n 3, 1) := by decide +kernel
theorem dX1_keepIfBetter_50 : decode cX1_keepIfBetter 50 = .ok (.aload_n 0, 1) := by decide +kernel
theorem dX1_keepIfBetter_51 : decode cX1_keepIfBetter 51 = .ok (.getfield 37, 3) := by decide +kernel
theorem dX1_keepIfBetter_54 : decode cX1_keepIfBetter 54 = .ok (.iload 5, 2) := by decide +kernel
theorem dX1_keepIfBetter_56 : decode cX1_keepIfBetter 56 = .ok (.iconst 4, 1) := by decide +kernel
theorem dX1_keepIfBetter_57 : decode cX1_keepIfBetter 57 = .ok (.imul, 1) := by decide +kernel
theorem dX1_keepIfBetter_58 : decode cX1_keepIfBetter 58 = .ok (.aload_n 0, 1) := by decide +kernel
theorem dX1_keepIfBetter_59 : decode cX1_keepIfBetter 59 = .ok (.getfield 49, 3) := by decide +kernel
theorem dX1_keepIfBetter_62 : decode cX1_keepIfBetter 62 = .ok (.iload 5, 2) := by decide +kernel
theorem dX1_keepIfBetter_64 : decode cX1_keepIfBetter 64 = .ok (.iaload, 1) := by decide +kernel
theorem dX1_keepIfBetter_65 : decode cX1_keepIfBetter 65 = .ok (.iadd, 1) := by decide +kernel
theorem dX1_keepIfBetter_66 : decode cX1_keepIfBetter 66 = .ok (.iaload, 1) := by decide +kernel
theorem dX1_keepIfBetter_67 : decode cX1_keepIfBetter 67 = .ok (.iadd, 1) := by decide +kernel
theorem dX1_keepIfBetter_68 : decode cX1_keepIfBetter 68 = .ok (.istore_n 3, 1) := by decide +kernel
theorem dX1_keepIfBetter_69 : decode cX1_keepIfBetter 69 = .ok (.iinc 4 1, 3) := by decide +kernel
theorem dX1_keepIfBetter_72 : decode cX1_keepIfBetter 72 = .ok (.iinc 5 1, 3) := by decide +kernel
theorem dX1_keepIfBetter_75 : decode cX1_keepIfBetter 75 = .ok (.goto (-65), 3) := by decide +kernel
theorem dX1_keepIfBetter_78 : decode cX1_keepIfBetter 78 = .ok (.iload_n 2, 1) := by decide +kernel
theorem dX1_keepIfBetter_79 : decode cX1_keepIfBetter 79 = .ok (.invokestatic 77, 3) := by decide +kernel
theorem dX1_keepIfBetter_82 : decode cX1_keepIfBetter 82 = .ok (.aload_n 0, 1) := by decide +kernel
theorem dX1_keepIfBetter_83 : decode cX1_keepIfBetter 83 = .ok (.getfield 18, 3) := by decide +kernel
theorem dX1_keepIfBetter_86 : decode cX1_keepIfBetter 86 = .ok (.if_icmp .le 4, 3) := by decide +kernel
theorem dX1_keepIfBetter_89 : decode cX1_keepIfBetter 89 = .ok (.return_, 1) := by decide +kernel
theorem dX1_keepIfBetter_90 : decode cX1_keepIfBetter 90 = .ok (.aload_n 0, 1) := by decide +kernel
theorem dX1_keepIfBetter_91 : decode cX1_keepIfBetter 91 = .ok (.getfield 55, 3) := by decide +kernel
theorem dX1_keepIfBetter_94 : decode cX1_keepIfBetter 94 = .ok (.iload_n 1, 1) := by decide +kernel
theorem dX1_keepIfBetter_95 : decode cX1_keepIfBetter 95 = .ok (.dup2, 1) := by decide +kernel
theorem dX1_keepIfBetter_96 : decode cX1_keepIfBetter 96 = .ok (.iaload, 1) := by decide +kernel
theorem dX1_keepIfBetter_97 : decode cX1_keepIfBetter 97 = .ok (.iconst 1, 1) := by decide +kernel
theorem dX1_keepIfBetter_98 : decode cX1_keepIfBetter 98 = .ok (.iadd, 1) := by decide +kernel
theorem dX1_keepIfBetter_99 : decode cX1_keepIfBetter 99 = .ok (.iastore, 1) := by decide +kernel
theorem dX1_keepIfBetter_100 : decode cX1_keepIfBetter 100 = .ok (.iload_n 3, 1) := by decide +kernel
theorem dX1_keepIfBetter_101 : decode cX1_keepIfBetter 101 = .ok (.aload_n 0, 1) := by decide +kernel
theorem dX1_keepIfBetter_102 : decode cX1_keepIfBetter 102 = .ok (.getfield 58, 3) := by decide +kernel
theorem dX1_keepIfBetter_105 : decode cX1_keepIfBetter 105 = .ok (.iload_n 1, 1) := by decide +kernel
theorem dX1_keepIfBetter_106 : decode cX1_keepIfBetter 106 = .ok (.iaload, 1) := by decide +kernel
theorem dX1_keepIfBetter_107 : decode cX1_keepIfBetter 107 = .ok (.if_icmp .lt 24, 3) := by decide +kernel
theorem dX1_keepIfBetter_110 : decode cX1_keepIfBetter 110 = .ok (.iload_n 3, 1) := by decide +kernel
theorem dX1_keepIfBetter_111 : decode cX1_keepIfBetter 111 = .ok (.aload_n 0, 1) := by decide +kernel
theorem dX1_keepIfBetter_112 : decode cX1_keepIfBetter 112 = .ok (.getfield 58, 3) := by decide +kernel
theorem dX1_keepIfBetter_115 : decode cX1_keepIfBetter 115 = .ok (.iload_n 1, 1) := by decide +kernel
theorem dX1_keepIfBetter_116 : decode cX1_keepIfBetter 116 = .ok (.iaload, 1) := by decide +kernel
theorem dX1_keepIfBetter_117 : decode cX1_keepIfBetter 117 = .ok (.if_icmp .ne 18, 3) := by decide +kernel
theorem dX1_keepIfBetter_120 : decode cX1_keepIfBetter 120 = .ok (.iload 4, 2) := by decide +kernel
theorem dX1_keepIfBetter_122 : decode cX1_keepIfBetter 122 = .ok (.aload_n 0, 1) := by decide +kernel
theorem dX1_keepIfBetter_123 : decode cX1_keepIfBetter 123 = .ok (.getfield 61, 3) := by decide +kernel
theorem dX1_keepIfBetter_126 : decode cX1_keepIfBetter 126 = .ok (.iload_n 1, 1) := by decide +kernel
theorem dX1_keepIfBetter_127 : decode cX1_keepIfBetter 127 = .ok (.iaload, 1) := by decide +kernel
theorem dX1_keepIfBetter_128 : decode cX1_keepIfBetter 128 = .ok (.if_icmp .ge 7, 3) := by decide +kernel
theorem dX1_keepIfBetter_131 : decode cX1_keepIfBetter 131 = .ok (.iconst 1, 1) := by decide +kernel
theorem dX1_keepIfBetter_132 : decode cX1_keepIfBetter 132 = .ok (.goto 4, 3) := by decide +kernel
theorem dX1_keepIfBetter_135 : decode cX1_keepIfBetter 135 = .ok (.iconst 0, 1) := by decide +kernel
theorem dX1_keepIfBetter_136 : decode cX1_keepIfBetter 136 = .ok (.istore 5, 2) := by decide +kernel
theorem dX1_keepIfBetter_138 : decode cX1_keepIfBetter 138 = .ok (.aload_n 0, 1) := by decide +kernel
theorem dX1_keepIfBetter_139 : decode cX1_keepIfBetter 139 = .ok (.getfield 55, 3) := by decide +kernel
theorem dX1_keepIfBetter_142 : decode cX1_keepIfBetter 142 = .ok (.iload_n 1, 1) := by decide +kernel
theorem dX1_keepIfBetter_143 : decode cX1_keepIfBetter 143 = .ok (.iaload, 1) := by decide +kernel
theorem dX1_keepIfBetter_144 : decode cX1_keepIfBetter 144 = .ok (.iconst 1, 1) := by decide +kernel
theorem dX1_keepIfBetter_145 : decode cX1_keepIfBetter 145 = .ok (.if_icmp .eq 8, 3) := by decide +kernel
theorem dX1_keepIfBetter_148 : decode cX1_keepIfBetter 148 = .ok (.iload 5, 2) := by decide +kernel
theorem dX1_keepIfBetter_150 : decode cX1_keepIfBetter 150 = .ok (.ifCond .eq 81, 3) := by decide +kernel
theorem dX1_keepIfBetter_153 : decode cX1_keepIfBetter 153 = .ok (.aload_n 0, 1) := by decide +kernel
theorem dX1_keepIfBetter_154 : decode cX1_keepIfBetter 154 = .ok (.getfield 58, 3) := by decide +kernel
theorem dX1_keepIfBetter_157 : decode cX1_keepIfBetter 157 = .ok (.iload_n 1, 1) := by decide +kernel
theorem dX1_keepIfBetter_158 : decode cX1_keepIfBetter 158 = .ok (.iload_n 3, 1) := by decide +kernel
theorem dX1_keepIfBetter_159 : decode cX1_keepIfBetter 159 = .ok (.iastore, 1) := by decide +kernel
theorem dX1_keepIfBetter_160 : decode cX1_keepIfBetter 160 = .ok (.aload_n 0, 1) := by decide +kernel
theorem dX1_keepIfBetter_161 : decode cX1_keepIfBetter 161 = .ok (.getfield 61, 3) := by decide +kernel
theorem dX1_keepIfBetter_164 : decode cX1_keepIfBetter 164 = .ok (.iload_n 1, 1) := by decide +kernel
theorem dX1_keepIfBetter_165 : decode cX1_keepIfBetter 165 = .ok (.iload 4, 2) := by decide +kernel
theorem dX1_keepIfBetter_167 : decode cX1_keepIfBetter 167 = .ok (.iastore, 1) := by decide +kernel
theorem dX1_keepIfBetter_168 : decode cX1_keepIfBetter 168 = .ok (.aload_n 0, 1) := by decide +kernel
theorem dX1_keepIfBetter_169 : decode cX1_keepIfBetter 169 = .ok (.getfield 64, 3) := by decide +kernel
theorem dX1_keepIfBetter_172 : decode cX1_keepIfBetter 172 = .ok (.iload_n 1, 1) := by decide +kernel
theorem dX1_keepIfBetter_173 : decode cX1_keepIfBetter 173 = .ok (.iload_n 2, 1) := by decide +kernel
theorem dX1_keepIfBetter_174 : decode cX1_keepIfBetter 174 = .ok (.iastore, 1) := by decide +kernel
theorem dX1_keepIfBetter_175 : decode cX1_keepIfBetter 175 = .ok (.iconst 0, 1) := by decide +kernel
theorem dX1_keepIfBetter_176 : decode cX1_keepIfBetter 176 = .ok (.istore 6, 2) := by decide +kernel
theorem dX1_keepIfBetter_178 : decode cX1_keepIfBetter 178 = .ok (.iload 6, 2) := by decide +kernel
theorem dX1_keepIfBetter_180 : decode cX1_keepIfBetter 180 = .ok (.aload_n 0, 1) := by decide +kernel
theorem dX1_keepIfBetter_181 : decode cX1_keepIfBetter 181 = .ok (.getfield 9, 3) := by decide +kernel
theorem dX1_keepIfBetter_184 : decode cX1_keepIfBetter 184 = .ok (.if_icmp .ge 47, 3) := by decide +kernel
theorem dX1_keepIfBetter_187 : decode cX1_keepIfBetter 187 = .ok (.aload_n 0, 1) := by decide +kernel
theorem dX1_keepIfBetter_188 : decode cX1_keepIfBetter 188 = .ok (.getfield 67, 3) := by decide +kernel
theorem dX1_keepIfBetter_191 : decode cX1_keepIfBetter 191 = .ok (.iload_n 1, 1) := by decide +kernel
theorem dX1_keepIfBetter_192 : decode cX1_keepIfBetter 192 = .ok (.bipush 6, 2) := by decide +kernel
theorem dX1_keepIfBetter_194 : decode cX1_keepIfBetter 194 = .ok (.imul, 1) := by decide +kernel
theorem dX1_keepIfBetter_195 : decode cX1_keepIfBetter 195 = .ok (.iload 6, 2) := by decide +kernel
theorem dX1_keepIfBetter_197 : decode cX1_keepIfBetter 197 = .ok (.iadd, 1) := by decide +kernel
theorem dX1_keepIfBetter_198 : decode cX1_keepIfBetter 198 = .ok (.aload_n 0, 1) := by decide +kernel
theorem dX1_keepIfBetter_199 : decode cX1_keepIfBetter 199 = .ok (.getfield 49, 3) := by decide +kernel
theorem dX1_keepIfBetter_202 : decode cX1_keepIfBetter 202 = .ok (.iload 6, 2) := by decide +kernel
theorem dX1_keepIfBetter_204 : decode cX1_keepIfBetter 204 = .ok (.iaload, 1) := by decide +kernel
theorem dX1_keepIfBetter_205 : decode cX1_keepIfBetter 205 = .ok (.iastore, 1) := by decide +kernel
theorem dX1_keepIfBetter_206 : decode cX1_keepIfBetter 206 = .ok (.aload_n 0, 1) := by decide +kernel
theorem dX1_keepIfBetter_207 : decode cX1_keepIfBetter 207 = .ok (.getfield 70, 3) := by decide +kernel
theorem dX1_keepIfBetter_210 : decode cX1_keepIfBetter 210 = .ok (.iload_n 1, 1) := by decide +kernel
theorem dX1_keepIfBetter_211 : decode cX1_keepIfBetter 211 = .ok (.bipush 6, 2) := by decide +kernel
theorem dX1_keepIfBetter_213 : decode cX1_keepIfBetter 213 = .ok (.imul, 1) := by decide +kernel
theorem dX1_keepIfBetter_214 : decode cX1_keepIfBetter 214 = .ok (.iload 6, 2) := by decide +kernel
theorem dX1_keepIfBetter_216 : decode cX1_keepIfBetter 216 = .ok (.iadd, 1) := by decide +kernel
theorem dX1_keepIfBetter_217 : decode cX1_keepIfBetter 217 = .ok (.aload_n 0, 1) := by decide +kernel
theorem dX1_keepIfBetter_218 : decode cX1_keepIfBetter 218 = .ok (.getfield 52, 3) := by decide +kernel
theorem dX1_keepIfBetter_221 : decode cX1_keepIfBetter 221 = .ok (.iload 6, 2) := by decide +kernel
theorem dX1_keepIfBetter_223 : decode cX1_keepIfBetter 223 = .ok (.iaload, 1) := by decide +kernel
theorem dX1_keepIfBetter_224 : decode cX1_keepIfBetter 224 = .ok (.iastore, 1) := by decide +kernel
theorem dX1_keepIfBetter_225 : decode cX1_keepIfBetter 225 = .ok (.iinc 6 1, 3) := by decide +kernel
theorem dX1_keepIfBetter_228 : decode cX1_keepIfBetter 228 = .ok (.goto (-50), 3) := by decide +kernel
theorem dX1_keepIfBetter_231 : decode cX1_keepIfBetter 231 = .ok (.return_, 1) := by decide +kernel
theorem dX2_init_0 : decode cX2_init 0 = .ok (.aload_n 0, 1) := by decide +kernel
theorem dX2_init_1 : decode cX2_init 1 = .ok (.invokespecial 3, 3) := by decide +kernel
theorem dX2_init_4 : decode cX2_init 4 = .ok (.aload_n 0, 1) := by decide +kernel
theorem dX2_init_5 : decode cX2_init 5 = .ok (.iconst 0, 1) := by decide +kernel
theorem dX2_init_6 : decode cX2_init 6 = .ok (.putfield 9, 3) := by decide +kernel
theorem dX2_init_9 : decode cX2_init 9 = .ok (.aload_n 0, 1) := by decide +kernel
theorem dX2_init_10 : decode cX2_init 10 = .ok (.iconst 0, 1) := by decide +kernel
theorem dX2_init_11 : decode cX2_init 11 = .ok (.putfield 15, 3) := by decide +kernel
theorem dX2_init_14 : decode cX2_init 14 = .ok (.aload_n 0, 1) := by decide +kernel
theorem dX2_init_15 : decode cX2_init 15 = .ok (.iconst 0, 1) := by decide +kernel
theorem dX2_init_16 : decode cX2_init 16 = .ok (.putfield 18, 3) := by decide +kernel
theorem dX2_init_19 : decode cX2_init 19 = .ok (.aload_n 0, 1) := by decide +kernel
theorem dX2_init_20 : decode cX2_init 20 = .ok (.iconst 0, 1) := by decide +kernel
theorem dX2_init_21 : decode cX2_init 21 = .ok (.putfield 21, 3) := by decide +kernel
theorem dX2_init_24 : decode cX2_init 24 = .ok (.aload_n 0, 1) := by decide +kernel
theorem dX2_init_25 : decode cX2_init 25 = .ok (.iconst 3, 1) := by decide +kernel
theorem dX2_init_26 : decode cX2_init 26 = .ok (.newarray .int, 2) := by decide +kernel
theorem dX2_init_28 : decode cX2_init 28 = .ok (.dup, 1) := by decide +kernel
theorem dX2_init_29 : decode cX2_init 29 = .ok (.iconst 0, 1) := by decide +kernel
theorem dX2_init_30 : decode cX2_init 30 = .ok (.bipush (-9), 2) := by decide +kernel
theorem dX2_init_32 : decode cX2_init 32 = .ok (.iastore, 1) := by decide +kernel
theorem dX2_init_33 : decode cX2_init 33 = .ok (.dup, 1) := by decide +kernel
theorem dX2_init_34 : decode cX2_init 34 = .ok (.iconst 1, 1) := by decide +kernel
theorem dX2_init_35 : decode cX2_init 35 = .ok (.bipush (-9), 2) := by decide +kernel
theorem dX2_init_37 : decode cX2_init 37 = .ok (.iastore, 1) := by decide +kernel
theorem dX2_init_38 : decode cX2_init 38 = .ok (.dup, 1) := by decide +kernel
theorem dX2_init_39 : decode cX2_init 39 = .ok (.iconst 2, 1) := by decide +kernel
theorem dX2_init_40 : decode cX2_init 40 = .ok (.bipush (-9), 2) := by decide +kernel
theorem dX2_init_42 : decode cX2_init 42 = .ok (.iastore, 1) := by decide +kernel
theorem dX2_init_43 : decode cX2_init 43 = .ok (.putfield 24, 3) := by decide +kernel
theorem dX2_init_46 : decode cX2_init 46 = .ok (.aload_n 0, 1) := by decide +kernel
theorem dX2_init_47 : decode cX2_init 47 = .ok (.bipush (-9), 2) := by decide +kernel
theorem dX2_init_49 : decode cX2_init 49 = .ok (.putfield 28, 3) := by decide +kernel
theorem dX2_init_52 : decode cX2_init 52 = .ok (.aload_n 0, 1) := by decide +kernel
theorem dX2_init_53 : decode cX2_init 53 = .ok (.iconst 0, 1) := by decide +kernel
theorem dX2_init_54 : decode cX2_init 54 = .ok (.putfield 31, 3) := by decide +kernel
theorem dX2_init_57 : decode cX2_init 57 = .ok (.return_, 1) := by decide +kernel
theorem dX2_leaveEmpty_0 : decode cX2_leaveEmpty 0 = .ok (.aload_n 0, 1) := by decide +kernel
theorem dX2_leaveEmpty_1 : decode cX2_leaveEmpty 1 = .ok (.bipush (-9), 2) := by decide +kernel
theorem dX2_leaveEmpty_3 : decode cX2_leaveEmpty 3 = .ok (.putfield 28, 3) := by decide +kernel
theorem dX2_leaveEmpty_6 : decode cX2_leaveEmpty 6 = .ok (.aload_n 0, 1) := by decide +kernel
theorem dX2_leaveEmpty_7 : decode cX2_leaveEmpty 7 = .ok (.iconst 0, 1) := by decide +kernel
theorem dX2_leaveEmpty_8 : decode cX2_leaveEmpty 8 = .ok (.putfield 31, 3) := by decide +kernel
theorem dX2_leaveEmpty_11 : decode cX2_leaveEmpty 11 = .ok (.aload_n 0, 1) := by decide +kernel
theorem dX2_leaveEmpty_12 : decode cX2_leaveEmpty 12 = .ok (.getfield 24, 3) := by decide +kernel
theorem dX2_leaveEmpty_15 : decode cX2_leaveEmpty 15 = .ok (.iconst 2, 1) := by decide +kernel
theorem dX2_leaveEmpty_16 : decode cX2_leaveEmpty 16 = .ok (.aload_n 0, 1) := by decide +kernel
theorem dX2_leaveEmpty_17 : decode cX2_leaveEmpty 17 = .ok (.getfield 24, 3) := by decide +kernel
theorem dX2_leaveEmpty_20 : decode cX2_leaveEmpty 20 = .ok (.iconst 1, 1) := by decide +kernel
theorem dX2_leaveEmpty_21 : decode cX2_leaveEmpty 21 = .ok (.iaload, 1) := by decide +kernel
theorem dX2_leaveEmpty_22 : decode cX2_leaveEmpty 22 = .ok (.iastore, 1) := by decide +kernel
theorem dX2_leaveEmpty_23 : decode cX2_leaveEmpty 23 = .ok (.aload_n 0, 1) := by decide +kernel
theorem dX2_leaveEmpty_24 : decode cX2_leaveEmpty 24 = .ok (.getfield 24, 3) := by decide +kernel
theorem dX2_leaveEmpty_27 : decode cX2_leaveEmpty 27 = .ok (.iconst 1, 1) := by decide +kernel
theorem dX2_leaveEmpty_28 : decode cX2_leaveEmpty 28 = .ok (.aload_n 0, 1) := by decide +kernel
theorem dX2_leaveEmpty_29 : decode cX2_leaveEmpty 29 = .ok (.getfield 24, 3) := by decide +kernel
theorem dX2_leaveEmpty_32 : decode cX2_leaveEmpty 32 = .ok (.iconst 0, 1) := by decide +kernel
theorem dX2_leaveEmpty_33 : decode cX2_leaveEmpty 33 = .ok (.iaload, 1) := by decide +kernel
theorem dX2_leaveEmpty_34 : decode cX2_leaveEmpty 34 = .ok (.iastore, 1) := by decide +kernel
theorem dX2_leaveEmpty_35 : decode cX2_leaveEmpty 35 = .ok (.aload_n 0, 1) := by decide +kernel
theorem dX2_leaveEmpty_36 : decode cX2_leaveEmpty 36 = .ok (.getfield 24, 3) := by decide +kernel
theorem dX2_leaveEmpty_39 : decode cX2_leaveEmpty 39 = .ok (.iconst 0, 1) := by decide +kernel
theorem dX2_leaveEmpty_40 : decode cX2_leaveEmpty 40 = .ok (.iload_n 1, 1) := by decide +kernel
theorem dX2_leaveEmpty_41 : decode cX2_leaveEmpty 41 = .ok (.iastore, 1) := by decide +kernel
theorem dX2_leaveEmpty_42 : decode cX2_leaveEmpty 42 = .ok (.return_, 1) := by decide +kernel
theorem dJ6_bitCount_0f7a4_0 : decode cJ6_bitCount_0f7a4 0 = .ok (.iload_n 0, 1) := by decide +kernel
theorem dJ6_bitCount_0f7a4_1 : decode cJ6_bitCount_0f7a4 1 = .ok (.iload_n 0, 1) := by decide +kernel
theorem dJ6_bitCount_0f7a4_2 : decode cJ6_bitCount_0f7a4 2 = .ok (.iconst 1, 1) := by decide +kernel
theorem dJ6_bitCount_0f7a4_3 : decode cJ6_bitCount_0f7a4 3 = .ok (.iushr, 1) := by decide +kernel
theorem dJ6_bitCount_0f7a4_4 : decode cJ6_bitCount_0f7a4 4 = .ok (.ldc_w 265, 3) := by decide +kernel
theorem dJ6_bitCount_0f7a4_7 : decode cJ6_bitCount_0f7a4 7 = .ok (.iand, 1) := by decide +kernel
theorem dJ6_bitCount_0f7a4_8 : decode cJ6_bitCount_0f7a4 8 = .ok (.isub, 1) := by decide +kernel
theorem dJ6_bitCount_0f7a4_9 : decode cJ6_bitCount_0f7a4 9 = .ok (.istore_n 0, 1) := by decide +kernel
theorem dJ6_bitCount_0f7a4_10 : decode cJ6_bitCount_0f7a4 10 = .ok (.iload_n 0, 1) := by decide +kernel
theorem dJ6_bitCount_0f7a4_11 : decode cJ6_bitCount_0f7a4 11 = .ok (.ldc_w 266, 3) := by decide +kernel
theorem dJ6_bitCount_0f7a4_14 : decode cJ6_bitCount_0f7a4 14 = .ok (.iand, 1) := by decide +kernel
theorem dJ6_bitCount_0f7a4_15 : decode cJ6_bitCount_0f7a4 15 = .ok (.iload_n 0, 1) := by decide +kernel
theorem dJ6_bitCount_0f7a4_16 : decode cJ6_bitCount_0f7a4 16 = .ok (.iconst 2, 1) := by decide +kernel
theorem dJ6_bitCount_0f7a4_17 : decode cJ6_bitCount_0f7a4 17 = .ok (.iushr, 1) := by decide +kernel
theorem dJ6_bitCount_0f7a4_18 : decode cJ6_bitCount_0f7a4 18 = .ok (.ldc_w 266, 3) := by decide +kernel
theorem dJ6_bitCount_0f7a4_21 : decode cJ6_bitCount_0f7a4 21 = .ok (.iand, 1) := by decide +kernel
theorem dJ6_bitCount_0f7a4_22 : decode cJ6_bitCount_0f7a4 22 = .ok (.iadd, 1) := by decide +kernel
theorem dJ6_bitCount_0f7a4_23 : decode cJ6_bitCount_0f7a4 23 = .ok (.istore_n 0, 1) := by decide +kernel
theorem dJ6_bitCount_0f7a4_24 : decode cJ6_bitCount_0f7a4 24 = .ok (.iload_n 0, 1) := by decide +kernel
theorem dJ6_bitCount_0f7a4_25 : decode cJ6_bitCount_0f7a4 25 = .ok (.iload_n 0, 1) := by decide +kernel
theorem dJ6_bitCount_0f7a4_26 : decode cJ6_bitCount_0f7a4 26 = .ok (.iconst 4, 1) := by decide +kernel
theorem dJ6_bitCount_0f7a4_27 : decode cJ6_bitCount_0f7a4 27 = .ok (.iushr, 1) := by decide +kernel
theorem dJ6_bitCount_0f7a4_28 : decode cJ6_bitCount_0f7a4 28 = .ok (.iadd, 1) := by decide +kernel
theorem dJ6_bitCount_0f7a4_29 : decode cJ6_bitCount_0f7a4 29 = .ok (.ldc_w 267, 3) := by decide +kernel
theorem dJ6_bitCount_0f7a4_32 : decode cJ6_bitCount_0f7a4 32 = .ok (.iand, 1) := by decide +kernel
theorem dJ6_bitCount_0f7a4_33 : decode cJ6_bitCount_0f7a4 33 = .ok (.istore_n 0, 1) := by decide +kernel
theorem dJ6_bitCount_0f7a4_34 : decode cJ6_bitCount_0f7a4 34 = .ok (.iload_n 0, 1) := by decide +kernel
theorem dJ6_bitCount_0f7a4_35 : decode cJ6_bitCount_0f7a4 35 = .ok (.iload_n 0, 1) := by decide +kernel
theorem dJ6_bitCount_0f7a4_36 : decode cJ6_bitCount_0f7a4 36 = .ok (.bipush 8, 2) := by decide +kernel
theorem dJ6_bitCount_0f7a4_38 : decode cJ6_bitCount_0f7a4 38 = .ok (.iushr, 1) := by decide +kernel
theorem dJ6_bitCount_0f7a4_39 : decode cJ6_bitCount_0f7a4 39 = .ok (.iadd, 1) := by decide +kernel
theorem dJ6_bitCount_0f7a4_40 : decode cJ6_bitCount_0f7a4 40 = .ok (.istore_n 0, 1) := by decide +kernel
theorem dJ6_bitCount_0f7a4_41 : decode cJ6_bitCount_0f7a4 41 = .ok (.iload_n 0, 1) := by decide +kernel
theorem dJ6_bitCount_0f7a4_42 : decode cJ6_bitCount_0f7a4 42 = .ok (.iload_n 0, 1) := by decide +kernel
theorem dJ6_bitCount_0f7a4_43 : decode cJ6_bitCount_0f7a4 43 = .ok (.bipush 16, 2) := by decide +kernel
theorem dJ6_bitCount_0f7a4_45 : decode cJ6_bitCount_0f7a4 45 = .ok (.iushr, 1) := by decide +kernel
theorem dJ6_bitCount_0f7a4_46 : decode cJ6_bitCount_0f7a4 46 = .ok (.iadd, 1) := by decide +kernel
theorem dJ6_bitCount_0f7a4_47 : decode cJ6_bitCount_0f7a4 47 = .ok (.istore_n 0, 1) := by decide +kernel
theorem dJ6_bitCount_0f7a4_48 : decode cJ6_bitCount_0f7a4 48 = .ok (.iload_n 0, 1) := by decide +kernel
theorem dJ6_bitCount_0f7a4_49 : decode cJ6_bitCount_0f7a4 49 = .ok (.bipush 63, 2) := by decide +kernel
theorem dJ6_bitCount_0f7a4_51 : decode cJ6_bitCount_0f7a4 51 = .ok (.iand, 1) := by decide +kernel
theorem dJ6_bitCount_0f7a4_52 : decode cJ6_bitCount_0f7a4 52 = .ok (.ireturn, 1) := by decide +kernel
theorem dJ9_abs_0f7a4_0 : decode cJ9_abs_0f7a4 0 = .ok (.iload_n 0, 1) := by decide +kernel
theorem dJ9_abs_0f7a4_1 : decode cJ9_abs_0f7a4 1 = .ok (.ifCond .ge 8, 3) := by decide +kernel
theorem dJ9_abs_0f7a4_4 : decode cJ9_abs_0f7a4 4 = .ok (.iload_n 0, 1) := by decide +kernel
theorem dJ9_abs_0f7a4_5 : decode cJ9_abs_0f7a4 5 = .ok (.ineg, 1) := by decide +kernel
theorem dJ9_abs_0f7a4_6 : decode cJ9_abs_0f7a4 6 = .ok (.goto 4, 3) := by decide +kernel
theorem dJ9_abs_0f7a4_9 : decode cJ9_abs_0f7a4 9 = .ok (.iload_n 0, 1) := by decide +kernel
theorem dJ9_abs_0f7a4_10 : decode cJ9_abs_0f7a4 10 = .ok (.ireturn, 1) := by decide +kernel
theorem dJ9_min_7cf53_0 : decode cJ9_min_7cf53 0 = .ok (.iload_n 0, 1) := by decide +kernel
theorem dJ9_min_7cf53_1 : decode cJ9_min_7cf53 1 = .ok (.iload_n 1, 1) := by decide +kernel
theorem dJ9_min_7cf53_2 : decode cJ9_min_7cf53 2 = .ok (.if_icmp .gt 7, 3) := by decide +kernel
theorem dJ9_min_7cf53_5 : decode cJ9_min_7cf53 5 = .ok (.iload_n 0, 1) := by decide +kernel
theorem dJ9_min_7cf53_6 : decode cJ9_min_7cf53 6 = .ok (.goto 4, 3) := by decide +kernel
theorem dJ9_min_7cf53_9 : decode cJ9_min_7cf53 9 = .ok (.iload_n 1, 1) := by decide +kernel
theorem dJ9_min_7cf53_10 : decode cJ9_min_7cf53 10 = .ok (.ireturn, 1) := by decide +kernel
