theorem dX4_hasUnfit_4 : decode cX4_hasUnfit 4 = .ok (.iload_n 2, 1) := by decide +kernel
theorem dX4_hasUnfit_5 : decode cX4_hasUnfit 5 = .ok (.aload_n 0, 1) := by decide +kernel
theorem dX4_hasUnfit_6 : decode cX4_hasUnfit 6 = .ok (.getfield 75, 3) := by decide +kernel
theorem dX4_hasUnfit_9 : decode cX4_hasUnfit 9 = .ok (.if_icmp .ge 44, 3) := by decide +kernel
theorem dX4_hasUnfit_12 : decode cX4_hasUnfit 12 = .ok (.iload_n 1, 1) := by decide +kernel
theorem dX4_hasUnfit_13 : decode cX4_hasUnfit 13 = .ok (.ifCond .ne 28, 3) := by decide +kernel
theorem dX4_hasUnfit_16 : decode cX4_hasUnfit 16 = .ok (.aload_n 0, 1) := by decide +kernel
theorem dX4_hasUnfit_17 : decode cX4_hasUnfit 17 = .ok (.getfield 59, 3) := by decide +kernel
theorem dX4_hasUnfit_20 : decode cX4_hasUnfit 20 = .ok (.iload_n 2, 1) := by decide +kernel
theorem dX4_hasUnfit_21 : decode cX4_hasUnfit 21 = .ok (.iaload, 1) := by decide +kernel
theorem dX4_hasUnfit_22 : decode cX4_hasUnfit 22 = .ok (.bipush (-9), 2) := by decide +kernel
theorem dX4_hasUnfit_24 : decode cX4_hasUnfit 24 = .ok (.if_icmp .eq 21, 3) := by decide +kernel
theorem dX4_hasUnfit_27 : decode cX4_hasUnfit 27 = .ok (.aload_n 0, 1) := by decide +kernel
theorem dX4_hasUnfit_28 : decode cX4_hasUnfit 28 = .ok (.iload_n 2, 1) := by decide +kernel
theorem dX4_hasUnfit_29 : decode cX4_hasUnfit 29 = .ok (.aload_n 0, 1) := by decide +kernel
theorem dX4_hasUnfit_30 : decode cX4_hasUnfit 30 = .ok (.getfield 59, 3) := by decide +kernel
theorem dX4_hasUnfit_33 : decode cX4_hasUnfit 33 = .ok (.iload_n 2, 1) := by decide +kernel
theorem dX4_hasUnfit_34 : decode cX4_hasUnfit 34 = .ok (.iaload, 1) := by decide +kernel
theorem dX4_hasUnfit_35 : decode cX4_hasUnfit 35 = .ok (.invokevirtual 108, 3) := by decide +kernel
theorem dX4_hasUnfit_38 : decode cX4_hasUnfit 38 = .ok (.ifCond .eq 7, 3) := by decide +kernel
theorem dX4_hasUnfit_41 : decode cX4_hasUnfit 41 = .ok (.iconst 1, 1) := by decide +kernel
theorem dX4_hasUnfit_42 : decode cX4_hasUnfit 42 = .ok (.goto 4, 3) := by decide +kernel
theorem dX4_hasUnfit_45 : decode cX4_hasUnfit 45 = .ok (.iconst 0, 1) := by decide +kernel
theorem dX4_hasUnfit_46 : decode cX4_hasUnfit 46 = .ok (.istore_n 1, 1) := by decide +kernel
theorem dX4_hasUnfit_47 : decode cX4_hasUnfit 47 = .ok (.iinc 2 1, 3) := by decide +kernel
theorem dX4_hasUnfit_50 : decode cX4_hasUnfit 50 = .ok (.goto (-46), 3) := by decide +kernel
theorem dX4_hasUnfit_53 : decode cX4_hasUnfit 53 = .ok (.iload_n 1, 1) := by decide +kernel
theorem dX4_hasUnfit_54 : decode cX4_hasUnfit 54 = .ok (.ireturn, 1) := by decide +kernel
theorem dX4_hasClash_0 : decode cX4_hasClash 0 = .ok (.iconst 0, 1) := by decide +kernel
theorem dX4_hasClash_1 : decode cX4_hasClash 1 = .ok (.istore_n 1, 1) := by decide +kernel
theorem dX4_hasClash_2 : decode cX4_hasClash 2 = .ok (.iconst 0, 1) := by decide +kernel
theorem dX4_hasClash_3 : decode cX4_hasClash 3 = .ok (.istore_n 2, 1) := by decide +kernel
theorem dX4_hasClash_4 : decode cX4_hasClash 4 = .ok (.iload_n 2, 1) := by decide +kernel
theorem dX4_hasClash_5 : decode cX4_hasClash 5 = .ok (.aload_n 0, 1) := by decide +kernel
theorem dX4_hasClash_6 : decode cX4_hasClash 6 = .ok (.getfield 75, 3) := by decide +kernel
theorem dX4_hasClash_9 : decode cX4_hasClash 9 = .ok (.if_icmp .ge 86, 3) := by decide +kernel
theorem dX4_hasClash_12 : decode cX4_hasClash 12 = .ok (.iconst 0, 1) := by decide +kernel
theorem dX4_hasClash_13 : decode cX4_hasClash 13 = .ok (.istore_n 3, 1) := by decide +kernel
theorem dX4_hasClash_14 : decode cX4_hasClash 14 = .ok (.iload_n 3, 1) := by decide +kernel
theorem dX4_hasClash_15 : decode cX4_hasClash 15 = .ok (.iload_n 2, 1) := by decide +kernel
theorem dX4_hasClash_16 : decode cX4_hasClash 16 = .ok (.if_icmp .ge 73, 3) := by decide +kernel
theorem dX4_hasClash_19 : decode cX4_hasClash 19 = .ok (.iload_n 1, 1) := by decide +kernel
theorem dX4_hasClash_20 : decode cX4_hasClash 20 = .ok (.ifCond .ne 57, 3) := by decide +kernel
theorem dX4_hasClash_23 : decode cX4_hasClash 23 = .ok (.aload_n 0, 1) := by decide +kernel
theorem dX4_hasClash_24 : decode cX4_hasClash 24 = .ok (.getfield 19, 3) := by decide +kernel
theorem dX4_hasClash_27 : decode cX4_hasClash 27 = .ok (.iload_n 2, 1) := by decide +kernel
theorem dX4_hasClash_28 : decode cX4_hasClash 28 = .ok (.iaload, 1) := by decide +kernel
theorem dX4_hasClash_29 : decode cX4_hasClash 29 = .ok (.iload_n 3, 1) := by decide +kernel
theorem dX4_hasClash_30 : decode cX4_hasClash 30 = .ok (.invokestatic 86, 3) := by decide +kernel
theorem dX4_hasClash_33 : decode cX4_hasClash 33 = .ok (.ifCond .eq 48, 3) := by decide +kernel
theorem dX4_hasClash_36 : decode cX4_hasClash 36 = .ok (.aload_n 0, 1) := by decide +kernel
theorem dX4_hasClash_37 : decode cX4_hasClash 37 = .ok (.getfield 59, 3) := by decide +kernel
theorem dX4_hasClash_40 : decode cX4_hasClash 40 = .ok (.iload_n 2, 1) := by decide +kernel
theorem dX4_hasClash_41 : decode cX4_hasClash 41 = .ok (.iaload, 1) := by decide +kernel
theorem dX4_hasClash_42 : decode cX4_hasClash 42 = .ok (.bipush (-9), 2) := by decide +kernel
theorem dX4_hasClash_44 : decode cX4_hasClash 44 = .ok (.if_icmp .eq 37, 3) := by decide +kernel
theorem dX4_hasClash_47 : decode cX4_hasClash 47 = .ok (.aload_n 0, 1) := by decide +kernel
theorem dX4_hasClash_48 : decode cX4_hasClash 48 = .ok (.getfield 59, 3) := by decide +kernel
theorem dX4_hasClash_51 : decode cX4_hasClash 51 = .ok (.iload_n 3, 1) := by decide +kernel
theorem dX4_hasClash_52 : decode cX4_hasClash 52 = .ok (.iaload, 1) := by decide +kernel
theorem dX4_hasClash_53 : decode cX4_hasClash 53 = .ok (.bipush (-9), 2) := by decide +kernel
theorem dX4_hasClash_55 : decode cX4_hasClash 55 = .ok (.if_icmp .eq 26, 3) := by decide +kernel
theorem dX4_hasClash_58 : decode cX4_hasClash 58 = .ok (.aload_n 0, 1) := by decide +kernel
theorem dX4_hasClash_59 : decode cX4_hasClash 59 = .ok (.aload_n 0, 1) := by decide +kernel
theorem dX4_hasClash_60 : decode cX4_hasClash 60 = .ok (.getfield 59, 3) := by decide +kernel
theorem dX4_hasClash_63 : decode cX4_hasClash 63 = .ok (.iload_n 2, 1) := by decide +kernel
theorem dX4_hasClash_64 : decode cX4_hasClash 64 = .ok (.iaload, 1) := by decide +kernel
theorem dX4_hasClash_65 : decode cX4_hasClash 65 = .ok (.aload_n 0, 1) := by decide +kernel
theorem dX4_hasClash_66 : decode cX4_hasClash 66 = .ok (.getfield 59, 3) := by decide +kernel
theorem dX4_hasClash_69 : decode cX4_hasClash 69 = .ok (.iload_n 3, 1) := by decide +kernel
theorem dX4_hasClash_70 : decode cX4_hasClash 70 = .ok (.iaload, 1) := by decide +kernel
theorem dX4_hasClash_71 : decode cX4_hasClash 71 = .ok (.invokevirtual 105, 3) := by decide +kernel
theorem dX4_hasClash_74 : decode cX4_hasClash 74 = .ok (.ifCond .eq 7, 3) := by decide +kernel
theorem dX4_hasClash_77 : decode cX4_hasClash 77 = .ok (.iconst 1, 1) := by decide +kernel
theorem dX4_hasClash_78 : decode cX4_hasClash 78 = .ok (.goto 4, 3) := by decide +kernel
theorem dX4_hasClash_81 : decode cX4_hasClash 81 = .ok (.iconst 0, 1) := by decide +kernel
theorem dX4_hasClash_82 : decode cX4_hasClash 82 = .ok (.istore_n 1, 1) := by decide +kernel
theorem dX4_hasClash_83 : decode cX4_hasClash 83 = .ok (.iinc 3 1, 3) := by decide +kernel
theorem dX4_hasClash_86 : decode cX4_hasClash 86 = .ok (.goto (-72), 3) := by decide +kernel
theorem dX4_hasClash_89 : decode cX4_hasClash 89 = .ok (.iinc 2 1, 3) := by decide +kernel
theorem dX4_hasClash_92 : decode cX4_hasClash 92 = .ok (.goto (-88), 3) := by decide +kernel
theorem dX4_hasClash_95 : decode cX4_hasClash 95 = .ok (.iload_n 1, 1) := by decide +kernel
theorem dX4_hasClash_96 : decode cX4_hasClash 96 = .ok (.ireturn, 1) := by decide +kernel
theorem dX4_hasTooMuch_0 : decode cX4_hasTooMuch 0 = .ok (.iconst 0, 1) := by decide +kernel
theorem dX4_hasTooMuch_1 : decode cX4_hasTooMuch 1 = .ok (.istore_n 2, 1) := by decide +kernel
theorem dX4_hasTooMuch_2 : decode cX4_hasTooMuch 2 = .ok (.iconst 0, 1) := by decide +kernel
theorem dX4_hasTooMuch_3 : decode cX4_hasTooMuch 3 = .ok (.istore_n 3, 1) := by decide +kernel
theorem dX4_hasTooMuch_4 : decode cX4_hasTooMuch 4 = .ok (.iload_n 3, 1) := by decide +kernel
theorem dX4_hasTooMuch_5 : decode cX4_hasTooMuch 5 = .ok (.aload_n 0, 1) := by decide +kernel
theorem dX4_hasTooMuch_6 : decode cX4_hasTooMuch 6 = .ok (.getfield 92, 3) := by decide +kernel
theorem dX4_hasTooMuch_9 : decode cX4_hasTooMuch 9 = .ok (.if_icmp .ge 86, 3) := by decide +kernel
theorem dX4_hasTooMuch_12 : decode cX4_hasTooMuch 12 = .ok (.iconst 0, 1) := by decide +kernel
theorem dX4_hasTooMuch_13 : decode cX4_hasTooMuch 13 = .ok (.istore 4, 2) := by decide +kernel
theorem dX4_hasTooMuch_15 : decode cX4_hasTooMuch 15 = .ok (.iconst 0, 1) := by decide +kernel
theorem dX4_hasTooMuch_16 : decode cX4_hasTooMuch 16 = .ok (.istore 5, 2) := by decide +kernel
theorem dX4_hasTooMuch_18 : decode cX4_hasTooMuch 18 = .ok (.iload 5, 2) := by decide +kernel
theorem dX4_hasTooMuch_20 : decode cX4_hasTooMuch 20 = .ok (.aload_n 0, 1) := by decide +kernel
theorem dX4_hasTooMuch_21 : decode cX4_hasTooMuch 21 = .ok (.getfield 75, 3) := by decide +kernel
theorem dX4_hasTooMuch_24 : decode cX4_hasTooMuch 24 = .ok (.if_icmp .ge 36, 3) := by decide +kernel
theorem dX4_hasTooMuch_27 : decode cX4_hasTooMuch 27 = .ok (.iload 4, 2) := by decide +kernel
theorem dX4_hasTooMuch_29 : decode cX4_hasTooMuch 29 = .ok (.aload_n 0, 1) := by decide +kernel
theorem dX4_hasTooMuch_30 : decode cX4_hasTooMuch 30 = .ok (.getfield 59, 3) := by decide +kernel
theorem dX4_hasTooMuch_33 : decode cX4_hasTooMuch 33 = .ok (.iload 5, 2) := by decide +kernel
theorem dX4_hasTooMuch_35 : decode cX4_hasTooMuch 35 = .ok (.iaload, 1) := by decide +kernel
theorem dX4_hasTooMuch_36 : decode cX4_hasTooMuch 36 = .ok (.iload_n 3, 1) := by decide +kernel
theorem dX4_hasTooMuch_37 : decode cX4_hasTooMuch 37 = .ok (.if_icmp .ne 13, 3) := by decide +kernel
theorem dX4_hasTooMuch_40 : decode cX4_hasTooMuch 40 = .ok (.aload_n 0, 1) := by decide +kernel
theorem dX4_hasTooMuch_41 : decode cX4_hasTooMuch 41 = .ok (.getfield 7, 3) := by decide +kernel
theorem dX4_hasTooMuch_44 : decode cX4_hasTooMuch 44 = .ok (.iload 5, 2) := by decide +kernel
theorem dX4_hasTooMuch_46 : decode cX4_hasTooMuch 46 = .ok (.iaload, 1) := by decide +kernel
theorem dX4_hasTooMuch_47 : decode cX4_hasTooMuch 47 = .ok (.goto 4, 3) := by decide +kernel
theorem dX4_hasTooMuch_50 : decode cX4_hasTooMuch 50 = .ok (.iconst 0, 1) := by decide +kernel
theorem dX4_hasTooMuch_51 : decode cX4_hasTooMuch 51 = .ok (.iadd, 1) := by decide +kernel
theorem dX4_hasTooMuch_52 : decode cX4_hasTooMuch 52 = .ok (.istore 4, 2) := by decide +kernel
theorem dX4_hasTooMuch_54 : decode cX4_hasTooMuch 54 = .ok (.iinc 5 1, 3) := by decide +kernel
theorem dX4_hasTooMuch_57 : decode cX4_hasTooMuch 57 = .ok (.goto (-39), 3) := by decide +kernel
theorem dX4_hasTooMuch_60 : decode cX4_hasTooMuch 60 = .ok (.iload_n 2, 1) := by decide +kernel
theorem dX4_hasTooMuch_61 : decode cX4_hasTooMuch 61 = .ok (.ifCond .ne 22, 3) := by decide +kernel
theorem dX4_hasTooMuch_64 : decode cX4_hasTooMuch 64 = .ok (.iload_n 1, 1) := by decide +kernel
theorem dX4_hasTooMuch_65 : decode cX4_hasTooMuch 65 = .ok (.iload_n 3, 1) := by decide +kernel
theorem dX4_hasTooMuch_66 : decode cX4_hasTooMuch 66 = .ok (.invokestatic 86, 3) := by decide +kernel
theorem dX4_hasTooMuch_69 : decode cX4_hasTooMuch 69 = .ok (.ifCond .eq 18, 3) := by decide +kernel
theorem dX4_hasTooMuch_72 : decode cX4_hasTooMuch 72 = .ok (.iload 4, 2) := by decide +kernel
theorem dX4_hasTooMuch_74 : decode cX4_hasTooMuch 74 = .ok (.aload_n 0, 1) := by decide +kernel
theorem dX4_hasTooMuch_75 : decode cX4_hasTooMuch 75 = .ok (.getfield 37, 3) := by decide +kernel
theorem dX4_hasTooMuch_78 : decode cX4_hasTooMuch 78 = .ok (.iload_n 3, 1) := by decide +kernel
theorem dX4_hasTooMuch_79 : decode cX4_hasTooMuch 79 = .ok (.iaload, 1) := by decide +kernel
theorem dX4_hasTooMuch_80 : decode cX4_hasTooMuch 80 = .ok (.if_icmp .ge 7, 3) := by decide +kernel
theorem dX4_hasTooMuch_83 : decode cX4_hasTooMuch 83 = .ok (.iconst 1, 1) := by decide +kernel
theorem dX4_hasTooMuch_84 : decode cX4_hasTooMuch 84 = .ok (.goto 4, 3) := by decide +kernel
theorem dX4_hasTooMuch_87 : decode cX4_hasTooMuch 87 = .ok (.iconst 0, 1) := by decide +kernel
theorem dX4_hasTooMuch_88 : decode cX4_hasTooMuch 88 = .ok (.istore_n 2, 1) := by decide +kernel
theorem dX4_hasTooMuch_89 : decode cX4_hasTooMuch 89 = .ok (.iinc 3 1, 3) := by decide +kernel
theorem dX4_hasTooMuch_92 : decode cX4_hasTooMuch 92 = .ok (.goto (-88), 3) := by decide +kernel
theorem dX4_hasTooMuch_95 : decode cX4_hasTooMuch 95 = .ok (.iload_n 2, 1) := by decide +kernel
theorem dX4_hasTooMuch_96 : decode cX4_hasTooMuch 96 = .ok (.ireturn, 1) := by decide +kernel
theorem dX4_hasEmpty_0 : decode cX4_hasEmpty 0 = .ok (.iconst 0, 1) := by decide +kernel
theorem dX4_hasEmpty_1 : decode cX4_hasEmpty 1 = .ok (.istore_n 1, 1) := by decide +kernel
theorem dX4_hasEmpty_2 : decode cX4_hasEmpty 2 = .ok (.iconst 0, 1) := by decide +kernel
theorem dX4_hasEmpty_3 : decode cX4_hasEmpty 3 = .ok (.istore_n 2, 1) := by decide +kernel
theorem dX4_hasEmpty_4 : decode cX4_hasEmpty 4 = .ok (.iload_n 2, 1) := by decide +kernel
theorem dX4_hasEmpty_5 : decode cX4_hasEmpty 5 = .ok (.aload_n 0, 1) := by decide +kernel
theorem dX4_hasEmpty_6 : decode cX4_hasEmpty 6 = .ok (.getfield 75, 3) := by decide +kernel
theorem dX4_hasEmpty_9 : decode cX4_hasEmpty 9 = .ok (.if_icmp .ge 39, 3) := by decide +kernel
theorem dX4_hasEmpty_12 : decode cX4_hasEmpty 12 = .ok (.iload_n 1, 1) := by decide +kernel
theorem dX4_hasEmpty_13 : decode cX4_hasEmpty 13 = .ok (.ifCond .ne 23, 3) := by decide +kernel
theorem dX4_hasEmpty_16 : decode cX4_hasEmpty 16 = .ok (.aload_n 0, 1) := by decide +kernel
theorem dX4_hasEmpty_17 : decode cX4_hasEmpty 17 = .ok (.getfield 59, 3) := by decide +kernel
theorem dX4_hasEmpty_20 : decode cX4_hasEmpty 20 = .ok (.iload_n 2, 1) := by decide +kernel
theorem dX4_hasEmpty_21 : decode cX4_hasEmpty 21 = .ok (.iaload, 1) := by decide +kernel
theorem dX4_hasEmpty_22 : decode cX4_hasEmpty 22 = .ok (.bipush (-9), 2) := by decide +kernel
theorem dX4_hasEmpty_24 : decode cX4_hasEmpty 24 = .ok (.if_icmp .eq 16, 3) := by decide +kernel
theorem dX4_hasEmpty_27 : decode cX4_hasEmpty 27 = .ok (.aload_n 0, 1) := by decide +kernel
theorem dX4_hasEmpty_28 : decode cX4_hasEmpty 28 = .ok (.getfield 62, 3) := by decide +kernel
theorem dX4_hasEmpty_31 : decode cX4_hasEmpty 31 = .ok (.iload_n 2, 1) := by decide +kernel
theorem dX4_hasEmpty_32 : decode cX4_hasEmpty 32 = .ok (.iaload, 1) := by decide +kernel
theorem dX4_hasEmpty_33 : decode cX4_hasEmpty 33 = .ok (.ifCond .ne 7, 3) := by decide +kernel
theorem dX4_hasEmpty_36 : decode cX4_hasEmpty 36 = .ok (.iconst 1, 1) := by decide +kernel
theorem dX4_hasEmpty_37 : decode cX4_hasEmpty 37 = .ok (.goto 4, 3) := by decide +kernel
theorem dX4_hasEmpty_40 : decode cX4_hasEmpty 40 = .ok (.iconst 0, 1) := by decide +kernel
theorem dX4_hasEmpty_41 : decode cX4_hasEmpty 41 = .ok (.istore_n 1, 1) := by decide +kernel
theorem dX4_hasEmpty_42 : decode cX4_hasEmpty 42 = .ok (.iinc 2 1, 3) := by decide +kernel
theorem dX4_hasEmpty_45 : decode cX4_hasEmpty 45 = .ok (.goto (-41), 3) := by decide +kernel
theorem dX4_hasEmpty_48 : decode cX4_hasEmpty 48 = .ok (.iload_n 1, 1) := by decide +kernel
theorem dX4_hasEmpty_49 : decode cX4_hasEmpty 49 = .ok (.ireturn, 1) := by decide +kernel
theorem dX4_brokenBy_0 : decode cX4_brokenBy 0 = .ok (.aload_n 0, 1) := by decide +kernel
theorem dX4_brokenBy_1 : decode cX4_brokenBy 1 = .ok (.iload_n 1, 1) := by decide +kernel
theorem dX4_brokenBy_2 : decode cX4_brokenBy 2 = .ok (.invokevirtual 121, 3) := by decide +kernel
theorem dX4_brokenBy_5 : decode cX4_brokenBy 5 = .ok (.ifCond .eq 5, 3) := by decide +kernel
theorem dX4_brokenBy_8 : decode cX4_brokenBy 8 = .ok (.iconst 1, 1) := by decide +kernel
theorem dX4_brokenBy_9 : decode cX4_brokenBy 9 = .ok (.ireturn, 1) := by decide +kernel
theorem dX4_brokenBy_10 : decode cX4_brokenBy 10 = .ok (.aload_n 0, 1) := by decide +kernel
theorem dX4_brokenBy_11 : decode cX4_brokenBy 11 = .ok (.invokevirtual 124, 3) := by decide +kernel
theorem dX4_brokenBy_14 : decode cX4_brokenBy 14 = .ok (.ifCond .eq 5, 3) := by decide +kernel
theorem dX4_brokenBy_17 : decode cX4_brokenBy 17 = .ok (.iconst 2, 1) := by decide +kernel
theorem dX4_brokenBy_18 : decode cX4_brokenBy 18 = .ok (.ireturn, 1) := by decide +kernel
theorem dX4_brokenBy_19 : decode cX4_brokenBy 19 = .ok (.aload_n 0, 1) := by decide +kernel
theorem dX4_brokenBy_20 : decode cX4_brokenBy 20 = .ok (.invokevirtual 128, 3) := by decide +kernel
theorem dX4_brokenBy_23 : decode cX4_brokenBy 23 = .ok (.ifCond .eq 5, 3) := by decide +kernel
theorem dX4_brokenBy_26 : decode cX4_brokenBy 26 = .ok (.iconst 3, 1) := by decide +kernel
theorem dX4_brokenBy_27 : decode cX4_brokenBy 27 = .ok (.ireturn, 1) := by decide +kernel
theorem dX4_brokenBy_28 : decode cX4_brokenBy 28 = .ok (.aload_n 0, 1) := by decide +kernel
theorem dX4_brokenBy_29 : decode cX4_brokenBy 29 = .ok (.iload_n 1, 1) := by decide +kernel
theorem dX4_brokenBy_30 : decode cX4_brokenBy 30 = .ok (.invokevirtual 131, 3) := by decide +kernel
theorem dX4_brokenBy_33 : decode cX4_brokenBy 33 = .ok (.ifCond .eq 5, 3) := by decide +kernel
theorem dX4_brokenBy_36 : decode cX4_brokenBy 36 = .ok (.iconst 4, 1) := by decide +kernel
theorem dX4_brokenBy_37 : decode cX4_brokenBy 37 = .ok (.ireturn, 1) := by decide +kernel
theorem dX4_brokenBy_38 : decode cX4_brokenBy 38 = .ok (.aload_n 0, 1) := by decide +kernel
theorem dX4_brokenBy_39 : decode cX4_brokenBy 39 = .ok (.invokevirtual 134, 3) := by decide +kernel
theorem dX4_brokenBy_42 : decode cX4_brokenBy 42 = .ok (.aload_n 0, 1) := by decide +kernel
theorem dX4_brokenBy_43 : decode cX4_brokenBy 43 = .ok (.invokevirtual 137, 3) := by decide +kernel
theorem dX4_brokenBy_46 : decode cX4_brokenBy 46 = .ok (.ifCond .eq 5, 3) := by decide +kernel
theorem dX4_brokenBy_49 : decode cX4_brokenBy 49 = .ok (.iconst 5, 1) := by decide +kernel
theorem dX4_brokenBy_50 : decode cX4_brokenBy 50 = .ok (.ireturn, 1) := by decide +kernel
theorem dX4_brokenBy_51 : decode cX4_brokenBy 51 = .ok (.aload_n 0, 1) := by decide +kernel
theorem dX4_brokenBy_52 : decode cX4_brokenBy 52 = .ok (.invokevirtual 140, 3) := by decide +kernel
theorem dX4_brokenBy_55 : decode cX4_brokenBy 55 = .ok (.istore_n 2, 1) := by decide +kernel
theorem dX4_brokenBy_56 : decode cX4_brokenBy 56 = .ok (.iload_n 2, 1) := by decide +kernel
theorem dX4_brokenBy_57 : decode cX4_brokenBy 57 = .ok (.aload_n 0, 1) := by decide +kernel
theorem dX4_brokenBy_58 : decode cX4_brokenBy 58 = .ok (.getfield 55, 3) := by decide +kernel
theorem dX4_brokenBy_61 : decode cX4_brokenBy 61 = .ok (.if_icmp .gt 12, 3) := by decide +kernel
theorem dX4_brokenBy_64 : decode cX4_brokenBy 64 = .ok (.iload_n 2, 1) := by decide +kernel
theorem dX4_brokenBy_65 : decode cX4_brokenBy 65 = .ok (.ineg, 1) := by decide +kernel
theorem dX4_brokenBy_66 : decode cX4_brokenBy 66 = .ok (.aload_n 0, 1) := by decide +kernel
theorem dX4_brokenBy_67 : decode cX4_brokenBy 67 = .ok (.getfield 55, 3) := by decide +kernel
theorem dX4_brokenBy_70 : decode cX4_brokenBy 70 = .ok (.if_icmp .le 8, 3) := by decide +kernel
theorem dX4_brokenBy_73 : decode cX4_brokenBy 73 = .ok (.bipush 6, 2) := by decide +kernel
theorem dX4_brokenBy_75 : decode cX4_brokenBy 75 = .ok (.goto 4, 3) := by decide +kernel
theorem dX4_brokenBy_78 : decode cX4_brokenBy 78 = .ok (.iconst 0, 1) := by decide +kernel
theorem dX4_brokenBy_79 : decode cX4_brokenBy 79 = .ok (.ireturn, 1) := by decide +kernel
theorem dX4_broken_0 : decode cX4_broken 0 = .ok (.aload_n 0, 1) := by decide +kernel
theorem dX4_broken_1 : decode cX4_broken 1 = .ok (.iload_n 1, 1) := by decide +kernel
theorem dX4_broken_2 : decode cX4_broken 2 = .ok (.invokevirtual 144, 3) := by decide +kernel
theorem dX4_broken_5 : decode cX4_broken 5 = .ok (.ifCond .ne 6, 3) := by decide +kernel
theorem dX4_broken_8 : decode cX4_broken 8 = .ok (.bipush (-2), 2) := by decide +kernel
theorem dX4_broken_10 : decode cX4_broken 10 = .ok (.ireturn, 1) := by decide +kernel
theorem dX4_broken_11 : decode cX4_broken 11 = .ok (.aload_n 0, 1) := by decide +kernel
theorem dX4_broken_12 : decode cX4_broken 12 = .ok (.invokevirtual 147, 3) := by decide +kernel
theorem dX4_broken_15 : decode cX4_broken 15 = .ok (.aload_n 0, 1) := by decide +kernel
theorem dX4_broken_16 : decode cX4_broken 16 = .ok (.iload_n 1, 1) := by decide +kernel
theorem dX4_broken_17 : decode cX4_broken 17 = .ok (.invokevirtual 150, 3) := by decide +kernel
theorem dX4_broken_20 : decode cX4_broken 20 = .ok (.ireturn, 1) := by decide +kernel
theorem dX4_costOf_0 : decode cX4_costOf 0 = .ok (.iconst 0, 1) := by decide +kernel
theorem dX4_costOf_1 : decode cX4_costOf 1 = .ok (.istore_n 1, 1) := by decide +kernel
theorem dX4_costOf_2 : decode cX4_costOf 2 = .ok (.iconst 0, 1) := by decide +kernel
theorem dX4_costOf_3 : decode cX4_costOf 3 = .ok (.istore_n 2, 1) := by decide +kernel
theorem dX4_costOf_4 : decode cX4_costOf 4 = .ok (.iload_n 2, 1) := by decide +kernel
theorem dX4_costOf_5 : decode cX4_costOf 5 = .ok (.aload_n 0, 1) := by decide +kernel
theorem dX4_costOf_6 : decode cX4_costOf 6 = .ok (.getfield 75, 3) := by decide +kernel
theorem dX4_costOf_9 : decode cX4_costOf 9 = .ok (.if_icmp .ge 38, 3) := by decide +kernel
theorem dX4_costOf_12 : decode cX4_costOf 12 = .ok (.iload_n 1, 1) := by decide +kernel
theorem dX4_costOf_13 : decode cX4_costOf 13 = .ok (.aload_n 0, 1) := by decide +kernel
theorem dX4_costOf_14 : decode cX4_costOf 14 = .ok (.getfield 59, 3) := by decide +kernel
theorem dX4_costOf_17 : decode cX4_costOf 17 = .ok (.iload_n 2, 1) := by decide +kernel
theorem dX4_costOf_18 : decode cX4_costOf 18 = .ok (.iaload, 1) := by decide +kernel
theorem dX4_costOf_19 : decode cX4_costOf 19 = .ok (.bipush (-9), 2) := by decide +kernel
theorem dX4_costOf_21 : decode cX4_costOf 21 = .ok (.if_icmp .ne 7, 3) := by decide +kernel
theorem dX4_costOf_24 : decode cX4_costOf 24 = .ok (.iconst 0, 1) := by decide +kernel
theorem dX4_costOf_25 : decode cX4_costOf 25 = .ok (.goto 14, 3) := by decide +kernel
theorem dX4_costOf_28 : decode cX4_costOf 28 = .ok (.aload_n 0, 1) := by decide +kernel
theorem dX4_costOf_29 : decode cX4_costOf 29 = .ok (.iload_n 2, 1) := by decide +kernel
theorem dX4_costOf_30 : decode cX4_costOf 30 = .ok (.aload_n 0, 1) := by decide +kernel
theorem dX4_costOf_31 : decode cX4_costOf 31 = .ok (.getfield 59, 3) := by decide +kernel
theorem dX4_costOf_34 : decode cX4_costOf 34 = .ok (.iload_n 2, 1) := by decide +kernel
theorem dX4_costOf_35 : decode cX4_costOf 35 = .ok (.iaload, 1) := by decide +kernel
theorem dX4_costOf_36 : decode cX4_costOf 36 = .ok (.invokevirtual 118, 3) := by decide +kernel
theorem dX4_costOf_39 : decode cX4_costOf 39 = .ok (.iadd, 1) := by decide +kernel
theorem dX4_costOf_40 : decode cX4_costOf 40 = .ok (.istore_n 1, 1) := by decide +kernel
theorem dX4_costOf_41 : decode cX4_costOf 41 = .ok (.iinc 2 1, 3) := by decide +kernel
theorem dX4_costOf_44 : decode cX4_costOf 44 = .ok (.goto (-40), 3) := by decide +kernel
theorem dX4_costOf_47 : decode cX4_costOf 47 = .ok (.iload_n 1, 1) := by decide +kernel
theorem dX4_costOf_48 : decode cX4_costOf 48 = .ok (.ireturn, 1) := by decide +kernel
theorem dX4_usedOf_0 : decode cX4_usedOf 0 = .ok (.iconst 0, 1) := by decide +kernel
theorem dX4_usedOf_1 : decode cX4_usedOf 1 = .ok (.istore_n 1, 1) := by decide +kernel
theorem dX4_usedOf_2 : decode cX4_usedOf 2 = .ok (.iconst 0, 1) := by decide +kernel
theorem dX4_usedOf_3 : decode cX4_usedOf 3 = .ok (.istore_n 2, 1) := by decide +kernel
theorem dX4_usedOf_4 : decode cX4_usedOf 4 = .ok (.iload_n 2, 1) := by decide +kernel
theorem dX4_usedOf_5 : decode cX4_usedOf 5 = .ok (.aload_n 0, 1) := by decide +kernel
theorem dX4_usedOf_6 : decode cX4_usedOf 6 = .ok (.getfield 75, 3) := by decide +kernel
theorem dX4_usedOf_9 : decode cX4_usedOf 9 = .ok (.if_icmp .ge 28, 3) := by decide +kernel
theorem dX4_usedOf_12 : decode cX4_usedOf 12 = .ok (.iload_n 1, 1) := by decide +kernel
theorem dX4_usedOf_13 : decode cX4_usedOf 13 = .ok (.aload_n 0, 1) := by decide +kernel
theorem dX4_usedOf_14 : decode cX4_usedOf 14 = .ok (.getfield 59, 3) := by decide +kernel
theorem dX4_usedOf_17 : decode cX4_usedOf 17 = .ok (.iload_n 2, 1) := by decide +kernel
theorem dX4_usedOf_18 : decode cX4_usedOf 18 = .ok (.iaload, 1) := by decide +kernel
theorem dX4_usedOf_19 : decode cX4_usedOf 19 = .ok (.bipush (-9), 2) := by decide +kernel
theorem dX4_usedOf_21 : decode cX4_usedOf 21 = .ok (.if_icmp .ne 7, 3) := by decide +kernel
theorem dX4_usedOf_24 : decode cX4_usedOf 24 = .ok (.iconst 0, 1) := by decide +kernel
theorem dX4_usedOf_25 : decode cX4_usedOf 25 = .ok (.goto 4, 3) := by decide +kernel
theorem dX4_usedOf_28 : decode cX4_usedOf 28 = .ok (.iconst 1, 1) := by decide +kernel
theorem dX4_usedOf_29 : decode cX4_usedOf 29 = .ok (.iadd, 1) := by decide +kernel
theorem dX4_usedOf_30 : decode cX4_usedOf 30 = .ok (.istore_n 1, 1) := by decide +kernel
theorem dX4_usedOf_31 : decode cX4_usedOf 31 = .ok (.iinc 2 1, 3) := by decide +kernel
theorem dX4_usedOf_34 : decode cX4_usedOf 34 = .ok (.goto (-30), 3) := by decide +kernel
theorem dX4_usedOf_37 : decode cX4_usedOf 37 = .ok (.iload_n 1, 1) := by decide +kernel
theorem dX4_usedOf_38 : decode cX4_usedOf 38 = .ok (.ireturn, 1) := by decide +kernel
theorem dX4_ofPlan_0 : decode cX4_ofPlan 0 = .ok (.iload_n 1, 1) := by decide +kernel
theorem dX4_ofPlan_1 : decode cX4_ofPlan 1 = .ok (.iconst 0, 1) := by decide +kernel
theorem dX4_ofPlan_2 : decode cX4_ofPlan 2 = .ok (.iconst 2, 1) := by decide +kernel
theorem dX4_ofPlan_3 : decode cX4_ofPlan 3 = .ok (.invokestatic 71, 3) := by decide +kernel
theorem dX4_ofPlan_6 : decode cX4_ofPlan 6 = .ok (.ifCond .ne 6, 3) := by decide +kernel
theorem dX4_ofPlan_9 : decode cX4_ofPlan 9 = .ok (.bipush (-2), 2) := by decide +kernel
theorem dX4_ofPlan_11 : decode cX4_ofPlan 11 = .ok (.ireturn, 1) := by decide +kernel
theorem dX4_ofPlan_12 : decode cX4_ofPlan 12 = .ok (.aload_n 0, 1) := by decide +kernel
theorem dX4_ofPlan_13 : decode cX4_ofPlan 13 = .ok (.invokevirtual 147, 3) := by decide +kernel
theorem dX4_ofPlan_16 : decode cX4_ofPlan 16 = .ok (.aload_n 0, 1) := by decide +kernel
theorem dX4_ofPlan_17 : decode cX4_ofPlan 17 = .ok (.invokevirtual 134, 3) := by decide +kernel
theorem dX4_ofPlan_20 : decode cX4_ofPlan 20 = .ok (.iload_n 1, 1) := by decide +kernel
theorem dX4_ofPlan_21 : decode cX4_ofPlan 21 = .ok (.ifCond .ne 10, 3) := by decide +kernel
theorem dX4_ofPlan_24 : decode cX4_ofPlan 24 = .ok (.aload_n 0, 1) := by decide +kernel
theorem dX4_ofPlan_25 : decode cX4_ofPlan 25 = .ok (.invokevirtual 153, 3) := by decide +kernel
theorem dX4_ofPlan_28 : decode cX4_ofPlan 28 = .ok (.goto 22, 3) := by decide +kernel
theorem dX4_ofPlan_31 : decode cX4_ofPlan 31 = .ok (.iload_n 1, 1) := by decide +kernel
theorem dX4_ofPlan_32 : decode cX4_ofPlan 32 = .ok (.iconst 1, 1) := by decide +kernel
theorem dX4_ofPlan_33 : decode cX4_ofPlan 33 = .ok (.if_icmp .ne 10, 3) := by decide +kernel
theorem dX4_ofPlan_36 : decode cX4_ofPlan 36 = .ok (.aload_n 0, 1) := by decide +kernel
theorem dX4_ofPlan_37 : decode cX4_ofPlan 37 = .ok (.invokevirtual 156, 3) := by decide +kernel
theorem dX4_ofPlan_40 : decode cX4_ofPlan 40 = .ok (.goto 10, 3) := by decide +kernel
theorem dX4_ofPlan_43 : decode cX4_ofPlan 43 = .ok (.aload_n 0, 1) := by decide +kernel
theorem dX4_ofPlan_44 : decode cX4_ofPlan 44 = .ok (.invokevirtual 140, 3) := by decide +kernel
theorem dX4_ofPlan_47 : decode cX4_ofPlan 47 = .ok (.ldc 159, 2) := by decide +kernel
theorem dX4_ofPlan_49 : decode cX4_ofPlan 49 = .ok (.iadd, 1) := by decide +kernel
theorem dX4_ofPlan_50 : decode cX4_ofPlan 50 = .ok (.ireturn, 1) := by decide +kernel
theorem dX4_lays_0 : decode cX4_lays 0 = .ok (.iload_n 1, 1) := by decide +kernel
theorem dX4_lays_1 : decode cX4_lays 1 = .ok (.istore_n 3, 1) := by decide +kernel
theorem dX4_lays_2 : decode cX4_lays 2 = .ok (.aload_n 0, 1) := by decide +kernel
theorem dX4_lays_3 : decode cX4_lays 3 = .ok (.getfield 75, 3) := by decide +kernel
theorem dX4_lays_6 : decode cX4_lays 6 = .ok (.iconst 1, 1) := by decide +kernel
theorem dX4_lays_7 : decode cX4_lays 7 = .ok (.isub, 1) := by decide +kernel
theorem dX4_lays_8 : decode cX4_lays 8 = .ok (.istore 4, 2) := by decide +kernel
theorem dX4_lays_10 : decode cX4_lays 10 = .ok (.iload 4, 2) := by decide +kernel
theorem dX4_lays_12 : decode cX4_lays 12 = .ok (.ifCond .lt 28, 3) := by decide +kernel
theorem dX4_lays_15 : decode cX4_lays 15 = .ok (.aload_n 0, 1) := by decide +kernel
theorem dX4_lays_16 : decode cX4_lays 16 = .ok (.getfield 59, 3) := by decide +kernel
theorem dX4_lays_19 : decode cX4_lays 19 = .ok (.iload 4, 2) := by decide +kernel
theorem dX4_lays_21 : decode cX4_lays 21 = .ok (.aload_n 0, 1) := by decide +kernel
theorem dX4_lays_22 : decode cX4_lays 22 = .ok (.getfield 68, 3) := by decide +kernel
theorem dX4_lays_25 : decode cX4_lays 25 = .ok (.iload_n 3, 1) := by decide +kernel
theorem dX4_lays_26 : decode cX4_lays 26 = .ok (.iload_n 2, 1) := by decide +kernel
theorem dX4_lays_27 : decode cX4_lays 27 = .ok (.irem, 1) := by decide +kernel
theorem dX4_lays_28 : decode cX4_lays 28 = .ok (.iaload, 1) := by decide +kernel
theorem dX4_lays_29 : decode cX4_lays 29 = .ok (.iastore, 1) := by decide +kernel
theorem dX4_lays_30 : decode cX4_lays 30 = .ok (.iload_n 3, 1) := by decide +kernel
theorem dX4_lays_31 : decode cX4_lays 31 = .ok (.iload_n 2, 1) := by decide +kernel
theorem dX4_lays_32 : decode cX4_lays 32 = .ok (.idiv, 1) := by decide +kernel
theorem dX4_lays_33 : decode cX4_lays 33 = .ok (.istore_n 3, 1) := by decide +kernel
theorem dX4_lays_34 : decode cX4_lays 34 = .ok (.iinc 4 (-1), 3) := by decide +kernel
theorem dX4_lays_37 : decode cX4_lays 37 = .ok (.goto (-27), 3) := by decide +kernel
theorem dX4_lays_40 : decode cX4_lays 40 = .ok (.return_, 1) := by decide +kernel
theorem dX4_findBest_0 : decode cX4_findBest 0 = .ok (.iconst 0, 1) := by decide +kernel
theorem dX4_findBest_1 : decode cX4_findBest 1 = .ok (.istore_n 2, 1) := by decide +kernel
theorem dX4_findBest_2 : decode cX4_findBest 2 = .ok (.iconst 0, 1) := by decide +kernel
theorem dX4_findBest_3 : decode cX4_findBest 3 = .ok (.istore_n 3, 1) := by decide +kernel
theorem dX4_findBest_4 : decode cX4_findBest 4 = .ok (.iload_n 3, 1) := by decide +kernel
theorem dX4_findBest_5 : decode cX4_findBest 5 = .ok (.aload_n 0, 1) := by decide +kernel
theorem dX4_findBest_6 : decode cX4_findBest 6 = .ok (.getfield 92, 3) := by decide +kernel
theorem dX4_findBest_9 : decode cX4_findBest 9 = .ok (.if_icmp .ge 27, 3) := by decide +kernel
theorem dX4_findBest_12 : decode cX4_findBest 12 = .ok (.iload_n 1, 1) := by decide +kernel
theorem dX4_findBest_13 : decode cX4_findBest 13 = .ok (.iload_n 3, 1) := by decide +kernel
theorem dX4_findBest_14 : decode cX4_findBest 14 = .ok (.invokestatic 86, 3) := by decide +kernel
theorem dX4_findBest_17 : decode cX4_findBest 17 = .ok (.ifCond .eq 13, 3) := by decide +kernel
theorem dX4_findBest_20 : decode cX4_findBest 20 = .ok (.aload_n 0, 1) := by decide +kernel
theorem dX4_findBest_21 : decode cX4_findBest 21 = .ok (.getfield 68, 3) := by decide +kernel
theorem dX4_findBest_24 : decode cX4_findBest 24 = .ok (.iload_n 2, 1) := by decide +kernel
theorem dX4_findBest_25 : decode cX4_findBest 25 = .ok (.iload_n 3, 1) := by decide +kernel
theorem dX4_findBest_26 : decode cX4_findBest 26 = .ok (.iastore, 1) := by decide +kernel
theorem dX4_findBest_27 : decode cX4_findBest 27 = .ok (.iinc 2 1, 3) := by decide +kernel
theorem dX4_findBest_30 : decode cX4_findBest 30 = .ok (.iinc 3 1, 3) := by decide +kernel
theorem dX4_findBest_33 : decode cX4_findBest 33 = .ok (.goto (-29), 3) := by decide +kernel
theorem dX4_findBest_36 : decode cX4_findBest 36 = .ok (.aload_n 0, 1) := by decide +kernel
theorem dX4_findBest_37 : decode cX4_findBest 37 = .ok (.getfield 68, 3) := by decide +kernel
theorem dX4_findBest_40 : decode cX4_findBest 40 = .ok (.iload_n 2, 1) := by decide +kernel
theorem dX4_findBest_41 : decode cX4_findBest 41 = .ok (.bipush (-9), 2) := by decide +kernel
theorem dX4_findBest_43 : decode cX4_findBest 43 = .ok (.iastore, 1) := by decide +kernel
theorem dX4_findBest_44 : decode cX4_findBest 44 = .ok (.iinc 2 1, 3) := by decide +kernel
theorem dX4_findBest_47 : decode cX4_findBest 47 = .ok (.iconst 1, 1) := by decide +kernel
theorem dX4_findBest_48 : decode cX4_findBest 48 = .ok (.istore_n 3, 1) := by decide +kernel
theorem dX4_findBest_49 : decode cX4_findBest 49 = .ok (.iconst 0, 1) := by decide +kernel
theorem dX4_findBest_50 : decode cX4_findBest 50 = .ok (.istore 4, 2) := by decide +kernel
theorem dX4_findBest_52 : decode cX4_findBest 52 = .ok (.iload 4, 2) := by decide +kernel
theorem dX4_findBest_54 : decode cX4_findBest 54 = .ok (.aload_n 0, 1) := by decide +kernel
theorem dX4_findBest_55 : decode cX4_findBest 55 = .ok (.getfield 75, 3) := by decide +kernel
theorem dX4_findBest_58 : decode cX4_findBest 58 = .ok (.if_icmp .ge 13, 3) := by decide +kernel
theorem dX4_findBest_61 : decode cX4_findBest 61 = .ok (.iload_n 3, 1) := by decide +kernel
theorem dX4_findBest_62 : decode cX4_findBest 62 = .ok (.iload_n 2, 1) := by decide +kernel
theorem dX4_findBest_63 : decode cX4_findBest 63 = .ok (.imul, 1) := by decide +kernel
theorem dX4_findBest_64 : decode cX4_findBest 64 = .ok (.istore_n 3, 1) := by decide +kernel
theorem dX4_findBest_65 : decode cX4_findBest 65 = .ok (.iinc 4 1, 3) := by decide +kernel
theorem dX4_findBest_68 : decode cX4_findBest 68 = .ok (.goto (-16), 3) := by decide +kernel
theorem dX4_findBest_71 : decode cX4_findBest 71 = .ok (.aload_n 0, 1) := by decide +kernel
theorem dX4_findBest_72 : decode cX4_findBest 72 = .ok (.iconst 0, 1) := by decide +kernel
theorem dX4_findBest_73 : decode cX4_findBest 73 = .ok (.putfield 160, 3) := by decide +kernel
theorem dX4_findBest_76 : decode cX4_findBest 76 = .ok (.iconst 0, 1) := by decide +kernel
theorem dX4_findBest_77 : decode cX4_findBest 77 = .ok (.istore 4, 2) := by decide +kernel
theorem dX4_findBest_79 : decode cX4_findBest 79 = .ok (.iload 4, 2) := by decide +kernel
theorem dX4_findBest_81 : decode cX4_findBest 81 = .ok (.iload_n 3, 1) := by decide +kernel
theorem dX4_findBest_82 : decode cX4_findBest 82 = .ok (.if_icmp .ge 38, 3) := by decide +kernel
theorem dX4_findBest_85 : decode cX4_findBest 85 = .ok (.aload_n 0, 1) := by decide +kernel
theorem dX4_findBest_86 : decode cX4_findBest 86 = .ok (.iload 4, 2) := by decide +kernel
theorem dX4_findBest_88 : decode cX4_findBest 88 = .ok (.iload_n 2, 1) := by decide +kernel
theorem dX4_findBest_89 : decode cX4_findBest 89 = .ok (.invokevirtual 163, 3) := by decide +kernel
theorem dX4_findBest_92 : decode cX4_findBest 92 = .ok (.aload_n 0, 1) := by decide +kernel
theorem dX4_findBest_93 : decode cX4_findBest 93 = .ok (.iload_n 1, 1) := by decide +kernel
theorem dX4_findBest_94 : decode cX4_findBest 94 = .ok (.invokevirtual 150, 3) := by decide +kernel
theorem dX4_findBest_97 : decode cX4_findBest 97 = .ok (.ifCond .ne 17, 3) := by decide +kernel
theorem dX4_findBest_100 : decode cX4_findBest 100 = .ok (.aload_n 0, 1) := by decide +kernel
theorem dX4_findBest_101 : decode cX4_findBest 101 = .ok (.dup, 1) := by decide +kernel
theorem dX4_findBest_102 : decode cX4_findBest 102 = .ok (.getfield 160, 3) := by decide +kernel
theorem dX4_findBest_105 : decode cX4_findBest 105 = .ok (.iconst 1, 1) := by decide +kernel
theorem dX4_findBest_106 : decode cX4_findBest 106 = .ok (.iadd, 1) := by decide +kernel
theorem dX4_findBest_107 : decode cX4_findBest 107 = .ok (.putfield 160, 3) := by decide +kernel
theorem dX4_findBest_110 : decode cX4_findBest 110 = .ok (.aload_n 0, 1) := by decide +kernel
theorem dX4_findBest_111 : decode cX4_findBest 111 = .ok (.invokevirtual 167, 3) := by decide +kernel
theorem dX4_findBest_114 : decode cX4_findBest 114 = .ok (.iinc 4 1, 3) := by decide +kernel
theorem dX4_findBest_117 : decode cX4_findBest 117 = .ok (.goto (-38), 3) := by decide +kernel
theorem dX4_findBest_120 : decode cX4_findBest 120 = .ok (.return_, 1) := by decide +kernel
theorem dX4_keepsBest_0 : decode cX4_keepsBest 0 = .ok (.aload_n 0, 1) := by decide +kernel
theorem dX4_keepsBest_1 : decode cX4_keepsBest 1 = .ok (.invokevirtual 153, 3) := by decide +kernel
theorem dX4_keepsBest_4 : decode cX4_keepsBest 4 = .ok (.istore_n 1, 1) := by decide +kernel
theorem dX4_keepsBest_5 : decode cX4_keepsBest 5 = .ok (.aload_n 0, 1) := by decide +kernel
theorem dX4_keepsBest_6 : decode cX4_keepsBest 6 = .ok (.invokevirtual 156, 3) := by decide +kernel
theorem dX4_keepsBest_9 : decode cX4_keepsBest 9 = .ok (.istore_n 2, 1) := by decide +kernel
theorem dX4_keepsBest_10 : decode cX4_keepsBest 10 = .ok (.aload_n 0, 1) := by decide +kernel
theorem dX4_keepsBest_11 : decode cX4_keepsBest 11 = .ok (.getfield 160, 3) := by decide +kernel
theorem dX4_keepsBest_14 : decode cX4_keepsBest 14 = .ok (.iconst 1, 1) := by decide +kernel
theorem dX4_keepsBest_15 : decode cX4_keepsBest 15 = .ok (.if_icmp .eq 27, 3) := by decide +kernel
theorem dX4_keepsBest_18 : decode cX4_keepsBest 18 = .ok (.iload_n 1, 1) := by decide +kernel
theorem dX4_keepsBest_19 : decode cX4_keepsBest 19 = .ok (.aload_n 0, 1) := by decide +kernel
theorem dX4_keepsBest_20 : decode cX4_keepsBest 20 = .ok (.getfield 170, 3) := by decide +kernel
theorem dX4_keepsBest_23 : decode cX4_keepsBest 23 = .ok (.if_icmp .lt 19, 3) := by decide +kernel
theorem dX4_keepsBest_26 : decode cX4_keepsBest 26 = .ok (.iload_n 1, 1) := by decide +kernel
theorem dX4_keepsBest_27 : decode cX4_keepsBest 27 = .ok (.aload_n 0, 1) := by decide +kernel
theorem dX4_keepsBest_28 : decode cX4_keepsBest 28 = .ok (.getfield 170, 3) := by decide +kernel
theorem dX4_keepsBest_31 : decode cX4_keepsBest 31 = .ok (.if_icmp .ne 49, 3) := by decide +kernel
theorem dX4_keepsBest_34 : decode cX4_keepsBest 34 = .ok (.iload_n 2, 1) := by decide +kernel
theorem dX4_keepsBest_35 : decode cX4_keepsBest 35 = .ok (.aload_n 0, 1) := by decide +kernel
theorem dX4_keepsBest_36 : decode cX4_keepsBest 36 = .ok (.getfield 173, 3) := by decide +kernel
theorem dX4_keepsBest_39 : decode cX4_keepsBest 39 = .ok (.if_icmp .ge 41, 3) := by decide +kernel
theorem dX4_keepsBest_42 : decode cX4_keepsBest 42 = .ok (.aload_n 0, 1) := by decide +kernel
theorem dX4_keepsBest_43 : decode cX4_keepsBest 43 = .ok (.iload_n 1, 1) := by decide +kernel
theorem dX4_keepsBest_44 : decode cX4_keepsBest 44 = .ok (.putfield 170, 3) := by decide +kernel
theorem dX4_keepsBest_47 : decode cX4_keepsBest 47 = .ok (.aload_n 0, 1) := by decide +kernel
theorem dX4_keepsBest_48 : decode cX4_keepsBest 48 = .ok (.iload_n 2, 1) := by decide +kernel
theorem dX4_keepsBest_49 : decode cX4_keepsBest 49 = .ok (.putfield 173, 3) := by decide +kernel
theorem dX4_keepsBest_52 : decode cX4_keepsBest 52 = .ok (.iconst 0, 1) := by decide +kernel
theorem dX4_keepsBest_53 : decode cX4_keepsBest 53 = .ok (.istore_n 3, 1) := by decide +kernel
theorem dX4_keepsBest_54 : decode cX4_keepsBest 54 = .ok (.iload_n 3, 1) := by decide +kernel
theorem dX4_keepsBest_55 : decode cX4_keepsBest 55 = .ok (.aload_n 0, 1) := by decide +kernel
theorem dX4_keepsBest_56 : decode cX4_keepsBest 56 = .ok (.getfield 75, 3) := by decide +kernel
theorem dX4_keepsBest_59 : decode cX4_keepsBest 59 = .ok (.if_icmp .ge 21, 3) := by decide +kernel
theorem dX4_keepsBest_62 : decode cX4_keepsBest 62 = .ok (.aload_n 0, 1) := by decide +kernel
theorem dX4_keepsBest_63 : decode cX4_keepsBest 63 = .ok (.getfield 65, 3) := by decide +kernel
theorem dX4_keepsBest_66 : decode cX4_keepsBest 66 = .ok (.iload_n 3, 1) := by decide +kernel
theorem dX4_keepsBest_67 : decode cX4_keepsBest 67 = .ok (.aload_n 0, 1) := by decide +kernel
theorem dX4_keepsBest_68 : decode cX4_keepsBest 68 = .ok (.getfield 59, 3) := by decide +kernel
theorem dX4_keepsBest_71 : decode cX4_keepsBest 71 = .ok (.iload_n 3, 1) := by decide +kernel
theorem dX4_keepsBest_72 : decode cX4_keepsBest 72 = .ok (.iaload, 1) := by decide +kernel
theorem dX4_keepsBest_73 : decode cX4_keepsBest 73 = .ok (.iastore, 1) := by decide +kernel
theorem dX4_keepsBest_74 : decode cX4_keepsBest 74 = .ok (.iinc 3 1, 3) := by decide +kernel
theorem dX4_keepsBest_77 : decode cX4_keepsBest 77 = .ok (.goto (-23), 3) := by decide +kernel
theorem dX4_keepsBest_80 : decode cX4_keepsBest 80 = .ok (.return_, 1) := by decide +kernel
theorem dX4_triesBest_0 : decode cX4_triesBest 0 = .ok (.iconst 0, 1) := by decide +kernel
theorem dX4_triesBest_1 : decode cX4_triesBest 1 = .ok (.istore_n 1, 1) := by decide +kernel
theorem dX4_triesBest_2 : decode cX4_triesBest 2 = .ok (.iload_n 1, 1) := by decide +kernel
theorem dX4_triesBest_3 : decode cX4_triesBest 3 = .ok (.aload_n 0, 1) := by decide +kernel
theorem dX4_triesBest_4 : decode cX4_triesBest 4 = .ok (.getfield 75, 3) := by decide +kernel
theorem dX4_triesBest_7 : decode cX4_triesBest 7 = .ok (.if_icmp .ge 21, 3) := by decide +kernel
theorem dX4_triesBest_10 : decode cX4_triesBest 10 = .ok (.aload_n 0, 1) := by decide +kernel
theorem dX4_triesBest_11 : decode cX4_triesBest 11 = .ok (.getfield 59, 3) := by decide +kernel
theorem dX4_triesBest_14 : decode cX4_triesBest 14 = .ok (.iload_n 1, 1) := by decide +kernel
theorem dX4_triesBest_15 : decode cX4_triesBest 15 = .ok (.aload_n 0, 1) := by decide +kernel
theorem dX4_triesBest_16 : decode cX4_triesBest 16 = .ok (.getfield 65, 3) := by decide +kernel
theorem dX4_triesBest_19 : decode cX4_triesBest 19 = .ok (.iload_n 1, 1) := by decide +kernel
theorem dX4_triesBest_20 : decode cX4_triesBest 20 = .ok (.iaload, 1) := by decide +kernel
theorem dX4_triesBest_21 : decode cX4_triesBest 21 = .ok (.iastore, 1) := by decide +kernel
theorem dX4_triesBest_22 : decode cX4_triesBest 22 = .ok (.iinc 1 1, 3) := by decide +kernel
theorem dX4_triesBest_25 : decode cX4_triesBest 25 = .ok (.goto (-23), 3) := by decide +kernel
theorem dX4_triesBest_28 : decode cX4_triesBest 28 = .ok (.aload_n 0, 1) := by decide +kernel
theorem dX4_triesBest_29 : decode cX4_triesBest 29 = .ok (.invokevirtual 134, 3) := by decide +kernel
theorem dX4_triesBest_32 : decode cX4_triesBest 32 = .ok (.return_, 1) := by decide +kernel
theorem dX4_best_0 : decode cX4_best 0 = .ok (.iload_n 2, 1) := by decide +kernel
theorem dX4_best_1 : decode cX4_best 1 = .ok (.bipush 20, 2) := by decide +kernel
theorem dX4_best_3 : decode cX4_best 3 = .ok (.if_icmp .lt 14, 3) := by decide +kernel
theorem dX4_best_6 : decode cX4_best 6 = .ok (.aload_n 0, 1) := by decide +kernel
theorem dX4_best_7 : decode cX4_best 7 = .ok (.iload_n 2, 1) := by decide +kernel
theorem dX4_best_8 : decode cX4_best 8 = .ok (.bipush 20, 2) := by decide +kernel
theorem dX4_best_10 : decode cX4_best 10 = .ok (.isub, 1) := by decide +kernel
theorem dX4_best_11 : decode cX4_best 11 = .ok (.invokevirtual 78, 3) := by decide +kernel
theorem dX4_best_14 : decode cX4_best 14 = .ok (.goto 25, 3) := by decide +kernel
theorem dX4_best_17 : decode cX4_best 17 = .ok (.iload_n 2, 1) := by decide +kernel
theorem dX4_best_18 : decode cX4_best 18 = .ok (.bipush 10, 2) := by decide +kernel
theorem dX4_best_20 : decode cX4_best 20 = .ok (.if_icmp .lt 18, 3) := by decide +kernel
theorem dX4_best_23 : decode cX4_best 23 = .ok (.aload_n 0, 1) := by decide +kernel
theorem dX4_best_24 : decode cX4_best 24 = .ok (.iload_n 2, 1) := by decide +kernel
theorem dX4_best_25 : decode cX4_best 25 = .ok (.bipush 10, 2) := by decide +kernel
theorem dX4_best_27 : decode cX4_best 27 = .ok (.isub, 1) := by decide +kernel
theorem dX4_best_28 : decode cX4_best 28 = .ok (.invokevirtual 78, 3) := by decide +kernel
theorem dX4_best_31 : decode cX4_best 31 = .ok (.ifCond .eq 7, 3) := by decide +kernel
theorem dX4_best_34 : decode cX4_best 34 = .ok (.iconst 1, 1) := by decide +kernel
theorem dX4_best_35 : decode cX4_best 35 = .ok (.goto 4, 3) := by decide +kernel
theorem dX4_best_38 : decode cX4_best 38 = .ok (.iconst 0, 1) := by decide +kernel
theorem dX4_best_39 : decode cX4_best 39 = .ok (.istore_n 3, 1) := by decide +kernel
theorem dX4_best_40 : decode cX4_best 40 = .ok (.aload_n 0, 1) := by decide +kernel
theorem dX4_best_41 : decode cX4_best 41 = .ok (.iload_n 1, 1) := by decide +kernel
theorem dX4_best_42 : decode cX4_best 42 = .ok (.invokevirtual 144, 3) := by decide +kernel
theorem dX4_best_45 : decode cX4_best 45 = .ok (.ifCond .eq 16, 3) := by decide +kernel
theorem dX4_best_48 : decode cX4_best 48 = .ok (.iload_n 2, 1) := by decide +kernel
theorem dX4_best_49 : decode cX4_best 49 = .ok (.iconst 0, 1) := by decide +kernel
theorem dX4_best_50 : decode cX4_best 50 = .ok (.iconst 3, 1) := by decide +kernel
theorem dX4_best_51 : decode cX4_best 51 = .ok (.invokestatic 71, 3) := by decide +kernel
theorem dX4_best_54 : decode cX4_best 54 = .ok (.ifCond .ne 10, 3) := by decide +kernel
theorem dX4_best_57 : decode cX4_best 57 = .ok (.iload_n 3, 1) := by decide +kernel
theorem dX4_best_58 : decode cX4_best 58 = .ok (.ifCond .ne 6, 3) := by decide +kernel
theorem dX4_best_61 : decode cX4_best 61 = .ok (.bipush (-2), 2) := by decide +kernel
theorem dX4_best_63 : decode cX4_best 63 = .ok (.ireturn, 1) := by decide +kernel
theorem dX4_best_64 : decode cX4_best 64 = .ok (.aload_n 0, 1) := by decide +kernel
theorem dX4_best_65 : decode cX4_best 65 = .ok (.iload_n 1, 1) := by decide +kernel
theorem dX4_best_66 : decode cX4_best 66 = .ok (.invokevirtual 176, 3) := by decide +kernel
theorem dX4_best_69 : decode cX4_best 69 = .ok (.iload_n 2, 1) := by decide +kernel
theorem dX4_best_70 : decode cX4_best 70 = .ok (.iconst 3, 1) := by decide +kernel
theorem dX4_best_71 : decode cX4_best 71 = .ok (.if_icmp .ne 8, 3) := by decide +kernel
theorem dX4_best_74 : decode cX4_best 74 = .ok (.aload_n 0, 1) := by decide +kernel
theorem dX4_best_75 : decode cX4_best 75 = .ok (.getfield 160, 3) := by decide +kernel
theorem dX4_best_78 : decode cX4_best 78 = .ok (.ireturn, 1) := by decide +kernel
theorem dX4_best_79 : decode cX4_best 79 = .ok (.aload_n 0, 1) := by decide +kernel
theorem dX4_best_80 : decode cX4_best 80 = .ok (.getfield 160, 3) := by decide +kernel
theorem dX4_best_83 : decode cX4_best 83 = .ok (.ifCond .ne 6, 3) := by decide +kernel
theorem dX4_best_86 : decode cX4_best 86 = .ok (.bipush (-9), 2) := by decide +kernel
theorem dX4_best_88 : decode cX4_best 88 = .ok (.ireturn, 1) := by decide +kernel
theorem dX4_best_89 : decode cX4_best 89 = .ok (.aload_n 0, 1) := by decide +kernel
theorem dX4_best_90 : decode cX4_best 90 = .ok (.invokevirtual 180, 3) := by decide +kernel
theorem dX4_best_93 : decode cX4_best 93 = .ok (.iload_n 2, 1) := by decide +kernel
theorem dX4_best_94 : decode cX4_best 94 = .ok (.tableswitch 44 0 2 #[26, 31, 36], 26) := by decide +kernel
theorem dX4_best_120 : decode cX4_best 120 = .ok (.aload_n 0, 1) := by decide +kernel
theorem dX4_best_121 : decode cX4_best 121 = .ok (.getfield 170, 3) := by decide +kernel
theorem dX4_best_124 : decode cX4_best 124 = .ok (.ireturn, 1) := by decide +kernel
theorem dX4_best_125 : decode cX4_best 125 = .ok (.aload_n 0, 1) := by decide +kernel
theorem dX4_best_126 : decode cX4_best 126 = .ok (.getfield 173, 3) := by decide +kernel
theorem dX4_best_129 : decode cX4_best 129 = .ok (.ireturn, 1) := by decide +kernel
theorem dX4_best_130 : decode cX4_best 130 = .ok (.aload_n 0, 1) := by decide +kernel
theorem dX4_best_131 : decode cX4_best 131 = .ok (.invokevirtual 140, 3) := by decide +kernel
theorem dX4_best_134 : decode cX4_best 134 = .ok (.ldc 159, 2) := by decide +kernel
theorem dX4_best_136 : decode cX4_best 136 = .ok (.iadd, 1) := by decide +kernel
theorem dX4_best_137 : decode cX4_best 137 = .ok (.ireturn, 1) := by decide +kernel
theorem dX4_best_138 : decode cX4_best 138 = .ok (.iload_n 2, 1) := by decide +kernel
theorem dX4_best_139 : decode cX4_best 139 = .ok (.bipush 20, 2) := by decide +kernel
theorem dX4_best_141 : decode cX4_best 141 = .ok (.if_icmp .ge 15, 3) := by decide +kernel
theorem dX4_best_144 : decode cX4_best 144 = .ok (.aload_n 0, 1) := by decide +kernel
theorem dX4_best_145 : decode cX4_best 145 = .ok (.getfield 65, 3) := by decide +kernel
theorem dX4_best_148 : decode cX4_best 148 = .ok (.iload_n 2, 1) := by decide +kernel
theorem dX4_best_149 : decode cX4_best 149 = .ok (.bipush 10, 2) := by decide +kernel
theorem dX4_best_151 : decode cX4_best 151 = .ok (.isub, 1) := by decide +kernel
theorem dX4_best_152 : decode cX4_best 152 = .ok (.iaload, 1) := by decide +kernel
theorem dX4_best_153 : decode cX4_best 153 = .ok (.goto 12, 3) := by decide +kernel
theorem dX4_best_156 : decode cX4_best 156 = .ok (.aload_n 0, 1) := by decide +kernel
theorem dX4_best_157 : decode cX4_best 157 = .ok (.getfield 62, 3) := by decide +kernel
theorem dX4_best_160 : decode cX4_best 160 = .ok (.iload_n 2, 1) := by decide +kernel
theorem dX4_best_161 : decode cX4_best 161 = .ok (.bipush 20, 2) := by decide +kernel
theorem dX4_best_163 : decode cX4_best 163 = .ok (.isub, 1) := by decide +kernel
theorem dX4_best_164 : decode cX4_best 164 = .ok (.iaload, 1) := by decide +kernel
theorem dX4_best_165 : decode cX4_best 165 = .ok (.ireturn, 1) := by decide +kernel
theorem dX4_amountsOf_0 : decode cX4_amountsOf 0 = .ok (.iconst 0, 1) := by decide +kernel
theorem dX4_amountsOf_1 : decode cX4_amountsOf 1 = .ok (.istore_n 2, 1) := by decide +kernel
theorem dX4_amountsOf_2 : decode cX4_amountsOf 2 = .ok (.iconst 0, 1) := by decide +kernel
theorem dX4_amountsOf_3 : decode cX4_amountsOf 3 = .ok (.istore_n 3, 1) := by decide +kernel
theorem dX4_amountsOf_4 : decode cX4_amountsOf 4 = .ok (.iload_n 3, 1) := by decide +kernel
theorem dX4_amountsOf_5 : decode cX4_amountsOf 5 = .ok (.aload_n 0, 1) := by decide +kernel
theorem dX4_amountsOf_6 : decode cX4_amountsOf 6 = .ok (.getfield 92, 3) := by decide +kernel
theorem dX4_amountsOf_9 : decode cX4_amountsOf 9 = .ok (.if_icmp .ge 30, 3) := by decide +kernel
theorem dX4_amountsOf_12 : decode cX4_amountsOf 12 = .ok (.iload_n 2, 1) := by decide +kernel
theorem dX4_amountsOf_13 : decode cX4_amountsOf 13 = .ok (.iload_n 1, 1) := by decide +kernel
theorem dX4_amountsOf_14 : decode cX4_amountsOf 14 = .ok (.iload_n 3, 1) := by decide +kernel
theorem dX4_amountsOf_15 : decode cX4_amountsOf 15 = .ok (.invokestatic 86, 3) := by decide +kernel
theorem dX4_amountsOf_18 : decode cX4_amountsOf 18 = .ok (.ifCond .eq 12, 3) := by decide +kernel
theorem dX4_amountsOf_21 : decode cX4_amountsOf 21 = .ok (.aload_n 0, 1) := by decide +kernel
theorem dX4_amountsOf_22 : decode cX4_amountsOf 22 = .ok (.getfield 37, 3) := by decide +kernel
theorem dX4_amountsOf_25 : decode cX4_amountsOf 25 = .ok (.iload_n 3, 1) := by decide +kernel
theorem dX4_amountsOf_26 : decode cX4_amountsOf 26 = .ok (.iaload, 1) := by decide +kernel
theorem dX4_amountsOf_27 : decode cX4_amountsOf 27 = .ok (.goto 4, 3) := by decide +kernel
theorem dX4_amountsOf_30 : decode cX4_amountsOf 30 = .ok (.iconst 0, 1) := by decide +kernel
theorem dX4_amountsOf_31 : decode cX4_amountsOf 31 = .ok (.iadd, 1) := by decide +kernel
theorem dX4_amountsOf_32 : decode cX4_amountsOf 32 = .ok (.istore_n 2, 1) := by decide +kernel
theorem dX4_amountsOf_33 : decode cX4_amountsOf 33 = .ok (.iinc 3 1, 3) := by decide +kernel
theorem dX4_amountsOf_36 : decode cX4_amountsOf 36 = .ok (.goto (-32), 3) := by decide +kernel
theorem dX4_amountsOf_39 : decode cX4_amountsOf 39 = .ok (.iload_n 2, 1) := by decide +kernel
theorem dX4_amountsOf_40 : decode cX4_amountsOf 40 = .ok (.ireturn, 1) := by decide +kernel
theorem dX4_sizeOf_0 : decode cX4_sizeOf 0 = .ok (.iconst 0, 1) := by decide +kernel
theorem dX4_sizeOf_1 : decode cX4_sizeOf 1 = .ok (.istore_n 1, 1) := by decide +kernel
theorem dX4_sizeOf_2 : decode cX4_sizeOf 2 = .ok (.iload_n 0, 1) := by decide +kernel
theorem dX4_sizeOf_3 : decode cX4_sizeOf 3 = .ok (.istore_n 2, 1) := by decide +kernel
theorem dX4_sizeOf_4 : decode cX4_sizeOf 4 = .ok (.iload_n 2, 1) := by decide +kernel
theorem dX4_sizeOf_5 : decode cX4_sizeOf 5 = .ok (.ifCond .le 16, 3) := by decide +kernel
theorem dX4_sizeOf_8 : decode cX4_sizeOf 8 = .ok (.iload_n 1, 1) := by decide +kernel
theorem dX4_sizeOf_9 : decode cX4_sizeOf 9 = .ok (.iload_n 2, 1) := by decide +kernel
theorem dX4_sizeOf_10 : decode cX4_sizeOf 10 = .ok (.iconst 1, 1) := by decide +kernel
theorem dX4_sizeOf_11 : decode cX4_sizeOf 11 = .ok (.iand, 1) := by decide +kernel
theorem dX4_sizeOf_12 : decode cX4_sizeOf 12 = .ok (.iadd, 1) := by decide +kernel
theorem dX4_sizeOf_13 : decode cX4_sizeOf 13 = .ok (.istore_n 1, 1) := by decide +kernel
theorem dX4_sizeOf_14 : decode cX4_sizeOf 14 = .ok (.iload_n 2, 1) := by decide +kernel
theorem dX4_sizeOf_15 : decode cX4_sizeOf 15 = .ok (.iconst 1, 1) := by decide +kernel
theorem dX4_sizeOf_16 : decode cX4_sizeOf 16 = .ok (.ishr, 1) := by decide +kernel
theorem dX4_sizeOf_17 : decode cX4_sizeOf 17 = .ok (.istore_n 2, 1) := by decide +kernel
theorem dX4_sizeOf_18 : decode cX4_sizeOf 18 = .ok (.goto (-14), 3) := by decide +kernel
theorem dX4_sizeOf_21 : decode cX4_sizeOf 21 = .ok (.iload_n 1, 1) := by decide +kernel
theorem dX4_sizeOf_22 : decode cX4_sizeOf 22 = .ok (.ireturn, 1) := by decide +kernel
theorem dX4_isBetter_0 : decode cX4_isBetter 0 = .ok (.aload_n 0, 1) := by decide +kernel
theorem dX4_isBetter_1 : decode cX4_isBetter 1 = .ok (.iload_n 1, 1) := by decide +kernel
theorem dX4_isBetter_2 : decode cX4_isBetter 2 = .ok (.invokevirtual 183, 3) := by decide +kernel
theorem dX4_isBetter_5 : decode cX4_isBetter 5 = .ok (.aload_n 0, 1) := by decide +kernel
theorem dX4_isBetter_6 : decode cX4_isBetter 6 = .ok (.iload_n 2, 1) := by decide +kernel
theorem dX4_isBetter_7 : decode cX4_isBetter 7 = .ok (.invokevirtual 183, 3) := by decide +kernel
theorem dX4_isBetter_10 : decode cX4_isBetter 10 = .ok (.isub, 1) := by decide +kernel
theorem dX4_isBetter_11 : decode cX4_isBetter 11 = .ok (.istore_n 3, 1) := by decide +kernel
theorem dX4_isBetter_12 : decode cX4_isBetter 12 = .ok (.iload_n 3, 1) := by decide +kernel
theorem dX4_isBetter_13 : decode cX4_isBetter 13 = .ok (.ifCond .gt 18, 3) := by decide +kernel
theorem dX4_isBetter_16 : decode cX4_isBetter 16 = .ok (.iload_n 3, 1) := by decide +kernel
theorem dX4_isBetter_17 : decode cX4_isBetter 17 = .ok (.ifCond .ne 18, 3) := by decide +kernel
theorem dX4_isBetter_20 : decode cX4_isBetter 20 = .ok (.iload_n 1, 1) := by decide +kernel
theorem dX4_isBetter_21 : decode cX4_isBetter 21 = .ok (.invokestatic 186, 3) := by decide +kernel
theorem dX4_isBetter_24 : decode cX4_isBetter 24 = .ok (.iload_n 2, 1) := by decide +kernel
theorem dX4_isBetter_25 : decode cX4_isBetter 25 = .ok (.invokestatic 186, 3) := by decide +kernel
theorem dX4_isBetter_28 : decode cX4_isBetter 28 = .ok (.if_icmp .ge 7, 3) := by decide +kernel
theorem dX4_isBetter_31 : decode cX4_isBetter 31 = .ok (.iconst 1, 1) := by decide +kernel
theorem dX4_isBetter_32 : decode cX4_isBetter 32 = .ok (.goto 4, 3) := by decide +kernel
theorem dX4_isBetter_35 : decode cX4_isBetter 35 = .ok (.iconst 0, 1) := by decide +kernel
theorem dX4_isBetter_36 : decode cX4_isBetter 36 = .ok (.ireturn, 1) := by decide +kernel
theorem dX4_taken_0 : decode cX4_taken 0 = .ok (.iconst 0, 1) := by decide +kernel
theorem dX4_taken_1 : decode cX4_taken 1 = .ok (.istore_n 1, 1) := by decide +kernel
theorem dX4_taken_2 : decode cX4_taken 2 = .ok (.iconst 1, 1) := by decide +kernel
theorem dX4_taken_3 : decode cX4_taken 3 = .ok (.istore_n 2, 1) := by decide +kernel
theorem dX4_taken_4 : decode cX4_taken 4 = .ok (.iload_n 2, 1) := by decide +kernel
theorem dX4_taken_5 : decode cX4_taken 5 = .ok (.iconst 1, 1) := by decide +kernel
theorem dX4_taken_6 : decode cX4_taken 6 = .ok (.aload_n 0, 1) := by decide +kernel
theorem dX4_taken_7 : decode cX4_taken 7 = .ok (.getfield 92, 3) := by decide +kernel
theorem dX4_taken_10 : decode cX4_taken 10 = .ok (.ishl, 1) := by decide +kernel
theorem dX4_taken_11 : decode cX4_taken 11 = .ok (.if_icmp .ge 36, 3) := by decide +kernel
theorem dX4_taken_14 : decode cX4_taken 14 = .ok (.aload_n 0, 1) := by decide +kernel
theorem dX4_taken_15 : decode cX4_taken 15 = .ok (.iload_n 2, 1) := by decide +kernel
theorem dX4_taken_16 : decode cX4_taken 16 = .ok (.iload_n 1, 1) := by decide +kernel
theorem dX4_taken_17 : decode cX4_taken 17 = .ok (.invokevirtual 189, 3) := by decide +kernel
theorem dX4_taken_20 : decode cX4_taken 20 = .ok (.ifCond .eq 21, 3) := by decide +kernel
theorem dX4_taken_23 : decode cX4_taken 23 = .ok (.aload_n 0, 1) := by decide +kernel
theorem dX4_taken_24 : decode cX4_taken 24 = .ok (.iload_n 2, 1) := by decide +kernel
theorem dX4_taken_25 : decode cX4_taken 25 = .ok (.invokevirtual 176, 3) := by decide +kernel
theorem dX4_taken_28 : decode cX4_taken 28 = .ok (.aload_n 0, 1) := by decide +kernel
theorem dX4_taken_29 : decode cX4_taken 29 = .ok (.getfield 160, 3) := by decide +kernel
theorem dX4_taken_32 : decode cX4_taken 32 = .ok (.ifCond .le 7, 3) := by decide +kernel
theorem dX4_taken_35 : decode cX4_taken 35 = .ok (.iload_n 2, 1) := by decide +kernel
theorem dX4_taken_36 : decode cX4_taken 36 = .ok (.goto 4, 3) := by decide +kernel
theorem dX4_taken_39 : decode cX4_taken 39 = .ok (.iload_n 1, 1) := by decide +kernel
theorem dX4_taken_40 : decode cX4_taken 40 = .ok (.istore_n 1, 1) := by decide +kernel
theorem dX4_taken_41 : decode cX4_taken 41 = .ok (.iinc 2 1, 3) := by decide +kernel
theorem dX4_taken_44 : decode cX4_taken 44 = .ok (.goto (-40), 3) := by decide +kernel
theorem dX4_taken_47 : decode cX4_taken 47 = .ok (.iload_n 1, 1) := by decide +kernel
theorem dX4_taken_48 : decode cX4_taken 48 = .ok (.ireturn, 1) := by decide +kernel
theorem dX4_load_0 : decode cX4_load 0 = .ok (.iconst 1, 1) := by decide +kernel
theorem dX4_load_1 : decode cX4_load 1 = .ok (.istore_n 1, 1) := by decide +kernel
theorem dX4_load_2 : decode cX4_load 2 = .ok (.iconst 0, 1) := by decide +kernel
theorem dX4_load_3 : decode cX4_load 3 = .ok (.istore_n 2, 1) := by decide +kernel
theorem dX4_load_4 : decode cX4_load 4 = .ok (.iload_n 2, 1) := by decide +kernel
theorem dX4_load_5 : decode cX4_load 5 = .ok (.aload_n 0, 1) := by decide +kernel
theorem dX4_load_6 : decode cX4_load 6 = .ok (.getfield 75, 3) := by decide +kernel
theorem dX4_load_9 : decode cX4_load 9 = .ok (.if_icmp .ge 30, 3) := by decide +kernel
theorem dX4_load_12 : decode cX4_load 12 = .ok (.iload_n 1, 1) := by decide +kernel
theorem dX4_load_13 : decode cX4_load 13 = .ok (.ifCond .eq 18, 3) := by decide +kernel
theorem dX4_load_16 : decode cX4_load 16 = .ok (.aload_n 0, 1) := by decide +kernel
theorem dX4_load_17 : decode cX4_load 17 = .ok (.getfield 28, 3) := by decide +kernel
theorem dX4_load_20 : decode cX4_load 20 = .ok (.iload_n 2, 1) := by decide +kernel
theorem dX4_load_21 : decode cX4_load 21 = .ok (.iaload, 1) := by decide +kernel
theorem dX4_load_22 : decode cX4_load 22 = .ok (.bipush (-9), 2) := by decide +kernel
theorem dX4_load_24 : decode cX4_load 24 = .ok (.if_icmp .ne 7, 3) := by decide +kernel
theorem dX4_load_27 : decode cX4_load 27 = .ok (.iconst 1, 1) := by decide +kernel
theorem dX4_load_28 : decode cX4_load 28 = .ok (.goto 4, 3) := by decide +kernel
theorem dX4_load_31 : decode cX4_load 31 = .ok (.iconst 0, 1) := by decide +kernel
theorem dX4_load_32 : decode cX4_load 32 = .ok (.istore_n 1, 1) := by decide +kernel
theorem dX4_load_33 : decode cX4_load 33 = .ok (.iinc 2 1, 3) := by decide +kernel
theorem dX4_load_36 : decode cX4_load 36 = .ok (.goto (-32), 3) := by decide +kernel
theorem dX4_load_39 : decode cX4_load 39 = .ok (.iload_n 1, 1) := by decide +kernel
theorem dX4_load_40 : decode cX4_load 40 = .ok (.ifCond .eq 10, 3) := by decide +kernel
theorem dX4_load_43 : decode cX4_load 43 = .ok (.aload_n 0, 1) := by decide +kernel
theorem dX4_load_44 : decode cX4_load 44 = .ok (.invokevirtual 192, 3) := by decide +kernel
theorem dX4_load_47 : decode cX4_load 47 = .ok (.goto 4, 3) := by decide +kernel
theorem dX4_load_50 : decode cX4_load 50 = .ok (.iconst 0, 1) := by decide +kernel
theorem dX4_load_51 : decode cX4_load 51 = .ok (.istore_n 2, 1) := by decide +kernel
theorem dX4_load_52 : decode cX4_load 52 = .ok (.iload_n 2, 1) := by decide +kernel
theorem dX4_load_53 : decode cX4_load 53 = .ok (.ifCond .ne 6, 3) := by decide +kernel
theorem dX4_load_56 : decode cX4_load 56 = .ok (.bipush (-3), 2) := by decide +kernel
theorem dX4_load_58 : decode cX4_load 58 = .ok (.ireturn, 1) := by decide +kernel
theorem dX4_load_59 : decode cX4_load 59 = .ok (.aload_n 0, 1) := by decide +kernel
theorem dX4_load_60 : decode cX4_load 60 = .ok (.iload_n 2, 1) := by decide +kernel
theorem dX4_load_61 : decode cX4_load 61 = .ok (.invokevirtual 176, 3) := by decide +kernel
theorem dX4_load_64 : decode cX4_load 64 = .ok (.aload_n 0, 1) := by decide +kernel
theorem dX4_load_65 : decode cX4_load 65 = .ok (.invokevirtual 180, 3) := by decide +kernel
theorem dX4_load_68 : decode cX4_load 68 = .ok (.iconst 0, 1) := by decide +kernel
theorem dX4_load_69 : decode cX4_load 69 = .ok (.istore_n 3, 1) := by decide +kernel
theorem dX4_load_70 : decode cX4_load 70 = .ok (.iload_n 3, 1) := by decide +kernel
theorem dX4_load_71 : decode cX4_load 71 = .ok (.aload_n 0, 1) := by decide +kernel
theorem dX4_load_72 : decode cX4_load 72 = .ok (.getfield 75, 3) := by decide +kernel
theorem dX4_load_75 : decode cX4_load 75 = .ok (.if_icmp .ge 33, 3) := by decide +kernel
theorem dX4_load_78 : decode cX4_load 78 = .ok (.aload_n 0, 1) := by decide +kernel
theorem dX4_load_79 : decode cX4_load 79 = .ok (.getfield 28, 3) := by decide +kernel
theorem dX4_load_82 : decode cX4_load 82 = .ok (.iload_n 3, 1) := by decide +kernel
theorem dX4_load_83 : decode cX4_load 83 = .ok (.aload_n 0, 1) := by decide +kernel
theorem dX4_load_84 : decode cX4_load 84 = .ok (.getfield 65, 3) := by decide +kernel
theorem dX4_load_87 : decode cX4_load 87 = .ok (.iload_n 3, 1) := by decide +kernel
theorem dX4_load_88 : decode cX4_load 88 = .ok (.iaload, 1) := by decide +kernel
theorem dX4_load_89 : decode cX4_load 89 = .ok (.iastore, 1) := by decide +kernel
theorem dX4_load_90 : decode cX4_load 90 = .ok (.aload_n 0, 1) := by decide +kernel
theorem dX4_load_91 : decode cX4_load 91 = .ok (.getfield 31, 3) := by decide +kernel
theorem dX4_load_94 : decode cX4_load 94 = .ok (.iload_n 3, 1) := by decide +kernel
theorem dX4_load_95 : decode cX4_load 95 = .ok (.aload_n 0, 1) := by decide +kernel
theorem dX4_load_96 : decode cX4_load 96 = .ok (.getfield 62, 3) := by decide +kernel
theorem dX4_load_99 : decode cX4_load 99 = .ok (.iload_n 3, 1) := by decide +kernel
theorem dX4_load_100 : decode cX4_load 100 = .ok (.iaload, 1) := by decide +kernel
theorem dX4_load_101 : decode cX4_load 101 = .ok (.iastore, 1) := by decide +kernel
theorem dX4_load_102 : decode cX4_load 102 = .ok (.iinc 3 1, 3) := by decide +kernel
theorem dX4_load_105 : decode cX4_load 105 = .ok (.goto (-35), 3) := by decide +kernel
theorem dX4_load_108 : decode cX4_load 108 = .ok (.aload_n 0, 1) := by decide +kernel
theorem dX4_load_109 : decode cX4_load 109 = .ok (.dup, 1) := by decide +kernel
theorem dX4_load_110 : decode cX4_load 110 = .ok (.getfield 195, 3) := by decide +kernel
theorem dX4_load_113 : decode cX4_load 113 = .ok (.aload_n 0, 1) := by decide +kernel
theorem dX4_load_114 : decode cX4_load 114 = .ok (.getfield 170, 3) := by decide +kernel
theorem dX4_load_117 : decode cX4_load 117 = .ok (.iadd, 1) := by decide +kernel
theorem dX4_load_118 : decode cX4_load 118 = .ok (.putfield 195, 3) := by decide +kernel
theorem dX4_load_121 : decode cX4_load 121 = .ok (.aload_n 0, 1) := by decide +kernel
theorem dX4_load_122 : decode cX4_load 122 = .ok (.getfield 170, 3) := by decide +kernel
theorem dX4_load_125 : decode cX4_load 125 = .ok (.ireturn, 1) := by decide +kernel
theorem dX4_empties_0 : decode cX4_empties 0 = .ok (.aload_n 0, 1) := by decide +kernel
theorem dX4_empties_1 : decode cX4_empties 1 = .ok (.getfield 22, 3) := by decide +kernel
theorem dX4_empties_4 : decode cX4_empties 4 = .ok (.iconst 3, 1) := by decide +kernel
theorem dX4_empties_5 : decode cX4_empties 5 = .ok (.iload_n 1, 1) := by decide +kernel
theorem dX4_empties_6 : decode cX4_empties 6 = .ok (.imul, 1) := by decide +kernel
theorem dX4_empties_7 : decode cX4_empties 7 = .ok (.iconst 2, 1) := by decide +kernel
theorem dX4_empties_8 : decode cX4_empties 8 = .ok (.iadd, 1) := by decide +kernel
theorem dX4_empties_9 : decode cX4_empties 9 = .ok (.aload_n 0, 1) := by decide +kernel
theorem dX4_empties_10 : decode cX4_empties 10 = .ok (.getfield 22, 3) := by decide +kernel
theorem dX4_empties_13 : decode cX4_empties 13 = .ok (.iconst 3, 1) := by decide +kernel
theorem dX4_empties_14 : decode cX4_empties 14 = .ok (.iload_n 1, 1) := by decide +kernel
theorem dX4_empties_15 : decode cX4_empties 15 = .ok (.imul, 1) := by decide +kernel
theorem dX4_empties_16 : decode cX4_empties 16 = .ok (.iconst 1, 1) := by decide +kernel
theorem dX4_empties_17 : decode cX4_empties 17 = .ok (.iadd, 1) := by decide +kernel
theorem dX4_empties_18 : decode cX4_empties 18 = .ok (.iaload, 1) := by decide +kernel
theorem dX4_empties_19 : decode cX4_empties 19 = .ok (.iastore, 1) := by decide +kernel
theorem dX4_empties_20 : decode cX4_empties 20 = .ok (.aload_n 0, 1) := by decide +kernel
theorem dX4_empties_21 : decode cX4_empties 21 = .ok (.getfield 22, 3) := by decide +kernel
theorem dX4_empties_24 : decode cX4_empties 24 = .ok (.iconst 3, 1) := by decide +kernel
theorem dX4_empties_25 : decode cX4_empties 25 = .ok (.iload_n 1, 1) := by decide +kernel
theorem dX4_empties_26 : decode cX4_empties 26 = .ok (.imul, 1) := by decide +kernel
theorem dX4_empties_27 : decode cX4_empties 27 = .ok (.iconst 1, 1) := by decide +kernel
theorem dX4_empties_28 : decode cX4_empties 28 = .ok (.iadd, 1) := by decide +kernel
theorem dX4_empties_29 : decode cX4_empties 29 = .ok (.aload_n 0, 1) := by decide +kernel
theorem dX4_empties_30 : decode cX4_empties 30 = .ok (.getfield 22, 3) := by decide +kernel
theorem dX4_empties_33 : decode cX4_empties 33 = .ok (.iconst 3, 1) := by decide +kernel
theorem dX4_empties_34 : decode cX4_empties 34 = .ok (.iload_n 1, 1) := by decide +kernel
theorem dX4_empties_35 : decode cX4_empties 35 = .ok (.imul, 1) := by decide +kernel
theorem dX4_empties_36 : decode cX4_empties 36 = .ok (.iaload, 1) := by decide +kernel
theorem dX4_empties_37 : decode cX4_empties 37 = .ok (.iastore, 1) := by decide +kernel
theorem dX4_empties_38 : decode cX4_empties 38 = .ok (.aload_n 0, 1) := by decide +kernel
theorem dX4_empties_39 : decode cX4_empties 39 = .ok (.getfield 22, 3) := by decide +kernel
theorem dX4_empties_42 : decode cX4_empties 42 = .ok (.iconst 3, 1) := by decide +kernel
theorem dX4_empties_43 : decode cX4_empties 43 = .ok (.iload_n 1, 1) := by decide +kernel
theorem dX4_empties_44 : decode cX4_empties 44 = .ok (.imul, 1) := by decide +kernel
theorem dX4_empties_45 : decode cX4_empties 45 = .ok (.aload_n 0, 1) := by decide +kernel
theorem dX4_empties_46 : decode cX4_empties 46 = .ok (.getfield 34, 3) := by decide +kernel
theorem dX4_empties_49 : decode cX4_empties 49 = .ok (.aload_n 0, 1) := by decide +kernel
theorem dX4_empties_50 : decode cX4_empties 50 = .ok (.getfield 28, 3) := by decide +kernel
theorem dX4_empties_53 : decode cX4_empties 53 = .ok (.iload_n 1, 1) := by decide +kernel
theorem dX4_empties_54 : decode cX4_empties 54 = .ok (.iaload, 1) := by decide +kernel
theorem dX4_empties_55 : decode cX4_empties 55 = .ok (.iaload, 1) := by decide +kernel
theorem dX4_empties_56 : decode cX4_empties 56 = .ok (.iastore, 1) := by decide +kernel
theorem dX4_empties_57 : decode cX4_empties 57 = .ok (.aload_n 0, 1) := by decide +kernel
theorem dX4_empties_58 : decode cX4_empties 58 = .ok (.getfield 28, 3) := by decide +kernel
theorem dX4_empties_61 : decode cX4_empties 61 = .ok (.iload_n 1, 1) := by decide +kernel
theorem dX4_empties_62 : decode cX4_empties 62 = .ok (.bipush (-9), 2) := by decide +kernel
theorem dX4_empties_64 : decode cX4_empties 64 = .ok (.iastore, 1) := by decide +kernel
theorem dX4_empties_65 : decode cX4_empties 65 = .ok (.aload_n 0, 1) := by decide +kernel
theorem dX4_empties_66 : decode cX4_empties 66 = .ok (.getfield 31, 3) := by decide +kernel
theorem dX4_empties_69 : decode cX4_empties 69 = .ok (.iload_n 1, 1) := by decide +kernel
theorem dX4_empties_70 : decode cX4_empties 70 = .ok (.iconst 0, 1) := by decide +kernel
theorem dX4_empties_71 : decode cX4_empties 71 = .ok (.iastore, 1) := by decide +kernel
theorem dX4_empties_72 : decode cX4_empties 72 = .ok (.return_, 1) := by decide +kernel
theorem dX4_unload_0 : decode cX4_unload 0 = .ok (.aload_n 0, 1) := by decide +kernel
theorem dX4_unload_1 : decode cX4_unload 1 = .ok (.iload_n 1, 1) := by decide +kernel
theorem dX4_unload_2 : decode cX4_unload 2 = .ok (.invokevirtual 102, 3) := by decide +kernel
theorem dX4_unload_5 : decode cX4_unload 5 = .ok (.ifCond .ne 5, 3) := by decide +kernel
theorem dX4_unload_8 : decode cX4_unload 8 = .ok (.iconst (-1), 1) := by decide +kernel
theorem dX4_unload_9 : decode cX4_unload 9 = .ok (.ireturn, 1) := by decide +kernel
theorem dX4_unload_10 : decode cX4_unload 10 = .ok (.aload_n 0, 1) := by decide +kernel
theorem dX4_unload_11 : decode cX4_unload 11 = .ok (.iload_n 1, 1) := by decide +kernel
theorem dX4_unload_12 : decode cX4_unload 12 = .ok (.invokevirtual 98, 3) := by decide +kernel
theorem dX4_unload_15 : decode cX4_unload 15 = .ok (.istore_n 2, 1) := by decide +kernel
theorem dX4_unload_16 : decode cX4_unload 16 = .ok (.iload_n 2, 1) := by decide +kernel
theorem dX4_unload_17 : decode cX4_unload 17 = .ok (.ifCond .ne 6, 3) := by decide +kernel
theorem dX4_unload_20 : decode cX4_unload 20 = .ok (.bipush (-3), 2) := by decide +kernel
theorem dX4_unload_22 : decode cX4_unload 22 = .ok (.ireturn, 1) := by decide +kernel
theorem dX4_unload_23 : decode cX4_unload 23 = .ok (.iconst 0, 1) := by decide +kernel
theorem dX4_unload_24 : decode cX4_unload 24 = .ok (.istore_n 3, 1) := by decide +kernel
theorem dX4_unload_25 : decode cX4_unload 25 = .ok (.iload_n 3, 1) := by decide +kernel
theorem dX4_unload_26 : decode cX4_unload 26 = .ok (.aload_n 0, 1) := by decide +kernel
theorem dX4_unload_27 : decode cX4_unload 27 = .ok (.getfield 75, 3) := by decide +kernel
theorem dX4_unload_30 : decode cX4_unload 30 = .ok (.if_icmp .ge 24, 3) := by decide +kernel
theorem dX4_unload_33 : decode cX4_unload 33 = .ok (.aload_n 0, 1) := by decide +kernel
theorem dX4_unload_34 : decode cX4_unload 34 = .ok (.getfield 28, 3) := by decide +kernel
theorem dX4_unload_37 : decode cX4_unload 37 = .ok (.iload_n 3, 1) := by decide +kernel
theorem dX4_unload_38 : decode cX4_unload 38 = .ok (.iaload, 1) := by decide +kernel
theorem dX4_unload_39 : decode cX4_unload 39 = .ok (.iload_n 1, 1) := by decide +kernel
theorem dX4_unload_40 : decode cX4_unload 40 = .ok (.if_icmp .ne 8, 3) := by decide +kernel
theorem dX4_unload_43 : decode cX4_unload 43 = .ok (.aload_n 0, 1) := by decide +kernel
theorem dX4_unload_44 : decode cX4_unload 44 = .ok (.iload_n 3, 1) := by decide +kernel
theorem dX4_unload_45 : decode cX4_unload 45 = .ok (.invokevirtual 198, 3) := by decide +kernel
theorem dX4_unload_48 : decode cX4_unload 48 = .ok (.iinc 3 1, 3) := by decide +kernel
theorem dX4_unload_51 : decode cX4_unload 51 = .ok (.goto (-26), 3) := by decide +kernel
theorem dX4_unload_54 : decode cX4_unload 54 = .ok (.iload_n 2, 1) := by decide +kernel
theorem dX4_unload_55 : decode cX4_unload 55 = .ok (.ireturn, 1) := by decide +kernel
theorem dX4_mayTake_0 : decode cX4_mayTake 0 = .ok (.aload_n 0, 1) := by decide +kernel
theorem dX4_mayTake_1 : decode cX4_mayTake 1 = .ok (.iload_n 1, 1) := by decide +kernel
theorem dX4_mayTake_2 : decode cX4_mayTake 2 = .ok (.iload_n 2, 1) := by decide +kernel
theorem dX4_mayTake_3 : decode cX4_mayTake 3 = .ok (.invokevirtual 108, 3) := by decide +kernel
theorem dX4_mayTake_6 : decode cX4_mayTake 6 = .ok (.ifCond .ne 7, 3) := by decide +kernel
theorem dX4_mayTake_9 : decode cX4_mayTake 9 = .ok (.iconst 1, 1) := by decide +kernel
theorem dX4_mayTake_10 : decode cX4_mayTake 10 = .ok (.goto 4, 3) := by decide +kernel
theorem dX4_mayTake_13 : decode cX4_mayTake 13 = .ok (.iconst 0, 1) := by decide +kernel
theorem dX4_mayTake_14 : decode cX4_mayTake 14 = .ok (.istore_n 3, 1) := by decide +kernel
theorem dX4_mayTake_15 : decode cX4_mayTake 15 = .ok (.iconst 0, 1) := by decide +kernel
theorem dX4_mayTake_16 : decode cX4_mayTake 16 = .ok (.istore 4, 2) := by decide +kernel
theorem dX4_mayTake_18 : decode cX4_mayTake 18 = .ok (.iload 4, 2) := by decide +kernel
theorem dX4_mayTake_20 : decode cX4_mayTake 20 = .ok (.aload_n 0, 1) := by decide +kernel
theorem dX4_mayTake_21 : decode cX4_mayTake 21 = .ok (.getfield 75, 3) := by decide +kernel
theorem dX4_mayTake_24 : decode cX4_mayTake 24 = .ok (.if_icmp .ge 60, 3) := by decide +kernel
theorem dX4_mayTake_27 : decode cX4_mayTake 27 = .ok (.iload_n 3, 1) := by decide +kernel
theorem dX4_mayTake_28 : decode cX4_mayTake 28 = .ok (.ifCond .eq 48, 3) := by decide +kernel
theorem dX4_mayTake_31 : decode cX4_mayTake 31 = .ok (.aload_n 0, 1) := by decide +kernel
theorem dX4_mayTake_32 : decode cX4_mayTake 32 = .ok (.getfield 19, 3) := by decide +kernel
theorem dX4_mayTake_35 : decode cX4_mayTake 35 = .ok (.iload_n 1, 1) := by decide +kernel
theorem dX4_mayTake_36 : decode cX4_mayTake 36 = .ok (.iaload, 1) := by decide +kernel
theorem dX4_mayTake_37 : decode cX4_mayTake 37 = .ok (.iload 4, 2) := by decide +kernel
theorem dX4_mayTake_39 : decode cX4_mayTake 39 = .ok (.invokestatic 86, 3) := by decide +kernel
theorem dX4_mayTake_42 : decode cX4_mayTake 42 = .ok (.ifCond .eq 30, 3) := by decide +kernel
theorem dX4_mayTake_45 : decode cX4_mayTake 45 = .ok (.aload_n 0, 1) := by decide +kernel
theorem dX4_mayTake_46 : decode cX4_mayTake 46 = .ok (.getfield 28, 3) := by decide +kernel
theorem dX4_mayTake_49 : decode cX4_mayTake 49 = .ok (.iload 4, 2) := by decide +kernel
theorem dX4_mayTake_51 : decode cX4_mayTake 51 = .ok (.iaload, 1) := by decide +kernel
theorem dX4_mayTake_52 : decode cX4_mayTake 52 = .ok (.bipush (-9), 2) := by decide +kernel
theorem dX4_mayTake_54 : decode cX4_mayTake 54 = .ok (.if_icmp .eq 18, 3) := by decide +kernel
theorem dX4_mayTake_57 : decode cX4_mayTake 57 = .ok (.aload_n 0, 1) := by decide +kernel
theorem dX4_mayTake_58 : decode cX4_mayTake 58 = .ok (.aload_n 0, 1) := by decide +kernel
theorem dX4_mayTake_59 : decode cX4_mayTake 59 = .ok (.getfield 28, 3) := by decide +kernel
theorem dX4_mayTake_62 : decode cX4_mayTake 62 = .ok (.iload 4, 2) := by decide +kernel
theorem dX4_mayTake_64 : decode cX4_mayTake 64 = .ok (.iaload, 1) := by decide +kernel
theorem dX4_mayTake_65 : decode cX4_mayTake 65 = .ok (.iload_n 2, 1) := by decide +kernel
theorem dX4_mayTake_66 : decode cX4_mayTake 66 = .ok (.invokevirtual 105, 3) := by decide +kernel
theorem dX4_mayTake_69 : decode cX4_mayTake 69 = .ok (.ifCond .ne 7, 3) := by decide +kernel
theorem dX4_mayTake_72 : decode cX4_mayTake 72 = .ok (.iconst 1, 1) := by decide +kernel
theorem dX4_mayTake_73 : decode cX4_mayTake 73 = .ok (.goto 4, 3) := by decide +kernel
theorem dX4_mayTake_76 : decode cX4_mayTake 76 = .ok (.iconst 0, 1) := by decide +kernel
theorem dX4_mayTake_77 : decode cX4_mayTake 77 = .ok (.istore_n 3, 1) := by decide +kernel
theorem dX4_mayTake_78 : decode cX4_mayTake 78 = .ok (.iinc 4 1, 3) := by decide +kernel
theorem dX4_mayTake_81 : decode cX4_mayTake 81 = .ok (.goto (-63), 3) := by decide +kernel
theorem dX4_mayTake_84 : decode cX4_mayTake 84 = .ok (.iload_n 3, 1) := by decide +kernel
theorem dX4_mayTake_85 : decode cX4_mayTake 85 = .ok (.ireturn, 1) := by decide +kernel
theorem dX4_pour_0 : decode cX4_pour 0 = .ok (.aload_n 0, 1) := by decide +kernel
theorem dX4_pour_1 : decode cX4_pour 1 = .ok (.iload_n 1, 1) := by decide +kernel
theorem dX4_pour_2 : decode cX4_pour 2 = .ok (.iload_n 2, 1) := by decide +kernel
theorem dX4_pour_3 : decode cX4_pour 3 = .ok (.invokevirtual 82, 3) := by decide +kernel
theorem dX4_pour_6 : decode cX4_pour 6 = .ok (.ifCond .ne 5, 3) := by decide +kernel
theorem dX4_pour_9 : decode cX4_pour 9 = .ok (.iconst (-1), 1) := by decide +kernel
theorem dX4_pour_10 : decode cX4_pour 10 = .ok (.ireturn, 1) := by decide +kernel
theorem dX4_pour_11 : decode cX4_pour 11 = .ok (.iload_n 3, 1) := by decide +kernel
theorem dX4_pour_12 : decode cX4_pour 12 = .ok (.iconst 1, 1) := by decide +kernel
theorem dX4_pour_13 : decode cX4_pour 13 = .ok (.bipush 99, 2) := by decide +kernel
theorem dX4_pour_15 : decode cX4_pour 15 = .ok (.invokestatic 71, 3) := by decide +kernel
theorem dX4_pour_18 : decode cX4_pour 18 = .ok (.ifCond .ne 6, 3) := by decide +kernel
theorem dX4_pour_21 : decode cX4_pour 21 = .ok (.bipush (-2), 2) := by decide +kernel
theorem dX4_pour_23 : decode cX4_pour 23 = .ok (.ireturn, 1) := by decide +kernel
theorem dX4_pour_24 : decode cX4_pour 24 = .ok (.aload_n 0, 1) := by decide +kernel
theorem dX4_pour_25 : decode cX4_pour 25 = .ok (.getfield 28, 3) := by decide +kernel
theorem dX4_pour_28 : decode cX4_pour 28 = .ok (.iload_n 1, 1) := by decide +kernel
theorem dX4_pour_29 : decode cX4_pour 29 = .ok (.iaload, 1) := by decide +kernel
theorem dX4_pour_30 : decode cX4_pour 30 = .ok (.istore 4, 2) := by decide +kernel
theorem dX4_pour_32 : decode cX4_pour 32 = .ok (.aload_n 0, 1) := by decide +kernel
theorem dX4_pour_33 : decode cX4_pour 33 = .ok (.getfield 28, 3) := by decide +kernel
theorem dX4_pour_36 : decode cX4_pour 36 = .ok (.iload_n 2, 1) := by decide +kernel
theorem dX4_pour_37 : decode cX4_pour 37 = .ok (.iaload, 1) := by decide +kernel
theorem dX4_pour_38 : decode cX4_pour 38 = .ok (.bipush (-9), 2) := by decide +kernel
theorem dX4_pour_40 : decode cX4_pour 40 = .ok (.if_icmp .ne 7, 3) := by decide +kernel
theorem dX4_pour_43 : decode cX4_pour 43 = .ok (.iconst 1, 1) := by decide +kernel
theorem dX4_pour_44 : decode cX4_pour 44 = .ok (.goto 4, 3) := by decide +kernel
theorem dX4_pour_47 : decode cX4_pour 47 = .ok (.iconst 0, 1) := by decide +kernel
theorem dX4_pour_48 : decode cX4_pour 48 = .ok (.istore 5, 2) := by decide +kernel
theorem dX4_pour_50 : decode cX4_pour 50 = .ok (.aload_n 0, 1) := by decide +kernel
theorem dX4_pour_51 : decode cX4_pour 51 = .ok (.getfield 31, 3) := by decide +kernel
theorem dX4_pour_54 : decode cX4_pour 54 = .ok (.iload_n 1, 1) := by decide +kernel
theorem dX4_pour_55 : decode cX4_pour 55 = .ok (.iaload, 1) := by decide +kernel
theorem dX4_pour_56 : decode cX4_pour 56 = .ok (.iload_n 3, 1) := by decide +kernel
theorem dX4_pour_57 : decode cX4_pour 57 = .ok (.if_icmp .lt 49, 3) := by decide +kernel
theorem dX4_pour_60 : decode cX4_pour 60 = .ok (.aload_n 0, 1) := by decide +kernel
theorem dX4_pour_61 : decode cX4_pour 61 = .ok (.getfield 7, 3) := by decide +kernel
theorem dX4_pour_64 : decode cX4_pour 64 = .ok (.iload_n 2, 1) := by decide +kernel
theorem dX4_pour_65 : decode cX4_pour 65 = .ok (.iaload, 1) := by decide +kernel
theorem dX4_pour_66 : decode cX4_pour 66 = .ok (.aload_n 0, 1) := by decide +kernel
theorem dX4_pour_67 : decode cX4_pour 67 = .ok (.getfield 31, 3) := by decide +kernel
theorem dX4_pour_70 : decode cX4_pour 70 = .ok (.iload_n 2, 1) := by decide +kernel
theorem dX4_pour_71 : decode cX4_pour 71 = .ok (.iaload, 1) := by decide +kernel
theorem dX4_pour_72 : decode cX4_pour 72 = .ok (.isub, 1) := by decide +kernel
theorem dX4_pour_73 : decode cX4_pour 73 = .ok (.iload_n 3, 1) := by decide +kernel
theorem dX4_pour_74 : decode cX4_pour 74 = .ok (.if_icmp .lt 32, 3) := by decide +kernel
theorem dX4_pour_77 : decode cX4_pour 77 = .ok (.iload 5, 2) := by decide +kernel
theorem dX4_pour_79 : decode cX4_pour 79 = .ok (.ifCond .eq 16, 3) := by decide +kernel
theorem dX4_pour_82 : decode cX4_pour 82 = .ok (.aload_n 0, 1) := by decide +kernel
theorem dX4_pour_83 : decode cX4_pour 83 = .ok (.iload_n 2, 1) := by decide +kernel
theorem dX4_pour_84 : decode cX4_pour 84 = .ok (.iload 4, 2) := by decide +kernel
theorem dX4_pour_86 : decode cX4_pour 86 = .ok (.invokevirtual 201, 3) := by decide +kernel
theorem dX4_pour_89 : decode cX4_pour 89 = .ok (.ifCond .ne 20, 3) := by decide +kernel
theorem dX4_pour_92 : decode cX4_pour 92 = .ok (.goto 14, 3) := by decide +kernel
theorem dX4_pour_95 : decode cX4_pour 95 = .ok (.aload_n 0, 1) := by decide +kernel
theorem dX4_pour_96 : decode cX4_pour 96 = .ok (.getfield 28, 3) := by decide +kernel
theorem dX4_pour_99 : decode cX4_pour 99 = .ok (.iload_n 2, 1) := by decide +kernel
theorem dX4_pour_100 : decode cX4_pour 100 = .ok (.iaload, 1) := by decide +kernel
theorem dX4_pour_101 : decode cX4_pour 101 = .ok (.iload 4, 2) := by decide +kernel
theorem dX4_pour_103 : decode cX4_pour 103 = .ok (.if_icmp .eq 6, 3) := by decide +kernel
theorem dX4_pour_106 : decode cX4_pour 106 = .ok (.bipush (-3), 2) := by decide +kernel
theorem dX4_pour_108 : decode cX4_pour 108 = .ok (.ireturn, 1) := by decide +kernel
theorem dX4_pour_109 : decode cX4_pour 109 = .ok (.aload_n 0, 1) := by decide +kernel
theorem dX4_pour_110 : decode cX4_pour 110 = .ok (.dup, 1) := by decide +kernel
theorem dX4_pour_111 : decode cX4_pour 111 = .ok (.getfield 195, 3) := by decide +kernel
theorem dX4_pour_114 : decode cX4_pour 114 = .ok (.iload 5, 2) := by decide +kernel
theorem dX4_pour_116 : decode cX4_pour 116 = .ok (.ifCond .eq 13, 3) := by decide +kernel
theorem dX4_pour_119 : decode cX4_pour 119 = .ok (.aload_n 0, 1) := by decide +kernel
theorem dX4_pour_120 : decode cX4_pour 120 = .ok (.iload_n 2, 1) := by decide +kernel
theorem dX4_pour_121 : decode cX4_pour 121 = .ok (.iload 4, 2) := by decide +kernel
theorem dX4_pour_123 : decode cX4_pour 123 = .ok (.invokevirtual 118, 3) := by decide +kernel
theorem dX4_pour_126 : decode cX4_pour 126 = .ok (.goto 4, 3) := by decide +kernel
theorem dX4_pour_129 : decode cX4_pour 129 = .ok (.iconst 0, 1) := by decide +kernel
theorem dX4_pour_130 : decode cX4_pour 130 = .ok (.iadd, 1) := by decide +kernel
theorem dX4_pour_131 : decode cX4_pour 131 = .ok (.putfield 195, 3) := by decide +kernel
theorem dX4_pour_134 : decode cX4_pour 134 = .ok (.aload_n 0, 1) := by decide +kernel
theorem dX4_pour_135 : decode cX4_pour 135 = .ok (.getfield 28, 3) := by decide +kernel
theorem dX4_pour_138 : decode cX4_pour 138 = .ok (.iload_n 2, 1) := by decide +kernel
theorem dX4_pour_139 : decode cX4_pour 139 = .ok (.iload 4, 2) := by decide +kernel
theorem dX4_pour_141 : decode cX4_pour 141 = .ok (.iastore, 1) := by decide +kernel
theorem dX4_pour_142 : decode cX4_pour 142 = .ok (.aload_n 0, 1) := by decide +kernel
theorem dX4_pour_143 : decode cX4_pour 143 = .ok (.getfield 31, 3) := by decide +kernel
theorem dX4_pour_146 : decode cX4_pour 146 = .ok (.iload_n 2, 1) := by decide +kernel
theorem dX4_pour_147 : decode cX4_pour 147 = .ok (.dup2, 1) := by decide +kernel
theorem dX4_pour_148 : decode cX4_pour 148 = .ok (.iaload, 1) := by decide +kernel
theorem dX4_pour_149 : decode cX4_pour 149 = .ok (.iload_n 3, 1) := by decide +kernel
theorem dX4_pour_150 : decode cX4_pour 150 = .ok (.iadd, 1) := by decide +kernel
theorem dX4_pour_151 : decode cX4_pour 151 = .ok (.iastore, 1) := by decide +kernel
theorem dX4_pour_152 : decode cX4_pour 152 = .ok (.aload_n 0, 1) := by decide +kernel
theorem dX4_pour_153 : decode cX4_pour 153 = .ok (.getfield 31, 3) := by decide +kernel
theorem dX4_pour_156 : decode cX4_pour 156 = .ok (.iload_n 1, 1) := by decide +kernel
theorem dX4_pour_157 : decode cX4_pour 157 = .ok (.dup2, 1) := by decide +kernel
theorem dX4_pour_158 : decode cX4_pour 158 = .ok (.iaload, 1) := by decide +kernel
theorem dX4_pour_159 : decode cX4_pour 159 = .ok (.iload_n 3, 1) := by decide +kernel
theorem dX4_pour_160 : decode cX4_pour 160 = .ok (.isub, 1) := by decide +kernel
theorem dX4_pour_161 : decode cX4_pour 161 = .ok (.iastore, 1) := by decide +kernel
theorem dX4_pour_162 : decode cX4_pour 162 = .ok (.aload_n 0, 1) := by decide +kernel
theorem dX4_pour_163 : decode cX4_pour 163 = .ok (.getfield 31, 3) := by decide +kernel
theorem dX4_pour_166 : decode cX4_pour 166 = .ok (.iload_n 1, 1) := by decide +kernel
theorem dX4_pour_167 : decode cX4_pour 167 = .ok (.iaload, 1) := by decide +kernel
theorem dX4_pour_168 : decode cX4_pour 168 = .ok (.ifCond .ne 8, 3) := by decide +kernel
theorem dX4_pour_171 : decode cX4_pour 171 = .ok (.aload_n 0, 1) := by decide +kernel
theorem dX4_pour_172 : decode cX4_pour 172 = .ok (.iload_n 1, 1) := by decide +kernel
theorem dX4_pour_173 : decode cX4_pour 173 = .ok (.invokevirtual 198, 3) := by decide +kernel
theorem dX4_pour_176 : decode cX4_pour 176 = .ok (.aload_n 0, 1) := by decide +kernel
theorem dX4_pour_177 : decode cX4_pour 177 = .ok (.getfield 31, 3) := by decide +kernel
theorem dX4_pour_180 : decode cX4_pour 180 = .ok (.iload_n 2, 1) := by decide +kernel
theorem dX4_pour_181 : decode cX4_pour 181 = .ok (.iaload, 1) := by decide +kernel
theorem dX4_pour_182 : decode cX4_pour 182 = .ok (.ireturn, 1) := by decide +kernel
theorem dX4_many_0 : decode cX4_many 0 = .ok (.iload_n 1, 1) := by decide +kernel
theorem dX4_many_1 : decode cX4_many 1 = .ok (.tableswitch 70 0 4 #[35, 40, 45, 57, 62], 35) := by decide +kernel
theorem dX4_many_36 : decode cX4_many 36 = .ok (.aload_n 0, 1) := by decide +kernel
theorem dX4_many_37 : decode cX4_many 37 = .ok (.getfield 75, 3) := by decide +kernel
theorem dX4_many_40 : decode cX4_many 40 = .ok (.ireturn, 1) := by decide +kernel
theorem dX4_many_41 : decode cX4_many 41 = .ok (.aload_n 0, 1) := by decide +kernel
theorem dX4_many_42 : decode cX4_many 42 = .ok (.getfield 92, 3) := by decide +kernel
theorem dX4_many_45 : decode cX4_many 45 = .ok (.ireturn, 1) := by decide +kernel
theorem dX4_many_46 : decode cX4_many 46 = .ok (.aload_n 0, 1) := by decide +kernel
theorem dX4_many_47 : decode cX4_many 47 = .ok (.getfield 75, 3) := by decide +kernel
theorem dX4_many_50 : decode cX4_many 50 = .ok (.aload_n 0, 1) := by decide +kernel
theorem dX4_many_51 : decode cX4_many 51 = .ok (.bipush (-9), 2) := by decide +kernel
theorem dX4_many_53 : decode cX4_many 53 = .ok (.invokevirtual 98, 3) := by decide +kernel
theorem dX4_many_56 : decode cX4_many 56 = .ok (.isub, 1) := by decide +kernel
theorem dX4_many_57 : decode cX4_many 57 = .ok (.ireturn, 1) := by decide +kernel
theorem dX4_many_58 : decode cX4_many 58 = .ok (.aload_n 0, 1) := by decide +kernel
theorem dX4_many_59 : decode cX4_many 59 = .ok (.getfield 195, 3) := by decide +kernel
theorem dX4_many_62 : decode cX4_many 62 = .ok (.ireturn, 1) := by decide +kernel
theorem dX4_many_63 : decode cX4_many 63 = .ok (.aload_n 0, 1) := by decide +kernel
theorem dX4_many_64 : decode cX4_many 64 = .ok (.invokevirtual 204, 3) := by decide +kernel
theorem dX4_many_67 : decode cX4_many 67 = .ok (.ldc 159, 2) := by decide +kernel
theorem dX4_many_69 : decode cX4_many 69 = .ok (.iadd, 1) := by decide +kernel
theorem dX4_many_70 : decode cX4_many 70 = .ok (.ireturn, 1) := by decide +kernel
theorem dX4_many_71 : decode cX4_many 71 = .ok (.bipush (-2), 2) := by decide +kernel
theorem dX4_many_73 : decode cX4_many 73 = .ok (.ireturn, 1) := by decide +kernel
theorem dX4_heldList_0 : decode cX4_heldList 0 = .ok (.iconst 0, 1) := by decide +kernel
theorem dX4_heldList_1 : decode cX4_heldList 1 = .ok (.istore_n 1, 1) := by decide +kernel
theorem dX4_heldList_2 : decode cX4_heldList 2 = .ok (.iconst 0, 1) := by decide +kernel
theorem dX4_heldList_3 : decode cX4_heldList 3 = .ok (.istore_n 2, 1) := by decide +kernel
theorem dX4_heldList_4 : decode cX4_heldList 4 = .ok (.iload_n 2, 1) := by decide +kernel
theorem dX4_heldList_5 : decode cX4_heldList 5 = .ok (.aload_n 0, 1) := by decide +kernel
theorem dX4_heldList_6 : decode cX4_heldList 6 = .ok (.getfield 75, 3) := by decide +kernel
theorem dX4_heldList_9 : decode cX4_heldList 9 = .ok (.if_icmp .ge 25, 3) := by decide +kernel
theorem dX4_heldList_12 : decode cX4_heldList 12 = .ok (.iload_n 1, 1) := by decide +kernel
theorem dX4_heldList_13 : decode cX4_heldList 13 = .ok (.aload_n 0, 1) := by decide +kernel
theorem dX4_heldList_14 : decode cX4_heldList 14 = .ok (.getfield 31, 3) := by decide +kernel
theorem dX4_heldList_17 : decode cX4_heldList 17 = .ok (.iload_n 2, 1) := by decide +kernel
theorem dX4_heldList_18 : decode cX4_heldList 18 = .ok (.iaload, 1) := by decide +kernel
theorem dX4_heldList_19 : decode cX4_heldList 19 = .ok (.aload_n 0, 1) := by decide +kernel
theorem dX4_heldList_20 : decode cX4_heldList 20 = .ok (.getfield 16, 3) := by decide +kernel
theorem dX4_heldList_23 : decode cX4_heldList 23 = .ok (.iload_n 2, 1) := by decide +kernel
theorem dX4_heldList_24 : decode cX4_heldList 24 = .ok (.iaload, 1) := by decide +kernel
theorem dX4_heldList_25 : decode cX4_heldList 25 = .ok (.imul, 1) := by decide +kernel
theorem dX4_heldList_26 : decode cX4_heldList 26 = .ok (.iadd, 1) := by decide +kernel
theorem dX4_heldList_27 : decode cX4_heldList 27 = .ok (.istore_n 1, 1) := by decide +kernel
theorem dX4_heldList_28 : decode cX4_heldList 28 = .ok (.iinc 2 1, 3) := by decide +kernel
theorem dX4_heldList_31 : decode cX4_heldList 31 = .ok (.goto (-27), 3) := by decide +kernel
theorem dX4_heldList_34 : decode cX4_heldList 34 = .ok (.iload_n 1, 1) := by decide +kernel
theorem dX4_heldList_35 : decode cX4_heldList 35 = .ok (.ireturn, 1) := by decide +kernel
