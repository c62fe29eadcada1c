theorem dX3_init_0 : decode cX3_init 0 = .ok (.aload_n 0, 1) := by decide +kernel
theorem dX3_init_1 : decode cX3_init 1 = .ok (.invokespecial 3, 3) := by decide +kernel
theorem dX3_init_4 : decode cX3_init 4 = .ok (.aload_n 0, 1) := by decide +kernel
theorem dX3_init_5 : decode cX3_init 5 = .ok (.bipush 6, 2) := by decide +kernel
theorem dX3_init_7 : decode cX3_init 7 = .ok (.anewarray 9, 3) := by decide +kernel
theorem dX3_init_10 : decode cX3_init 10 = .ok (.putfield 11, 3) := by decide +kernel
theorem dX3_init_13 : decode cX3_init 13 = .ok (.aload_n 0, 1) := by decide +kernel
theorem dX3_init_14 : decode cX3_init 14 = .ok (.iconst 4, 1) := by decide +kernel
theorem dX3_init_15 : decode cX3_init 15 = .ok (.anewarray 15, 3) := by decide +kernel
theorem dX3_init_18 : decode cX3_init 18 = .ok (.putfield 17, 3) := by decide +kernel
theorem dX3_init_21 : decode cX3_init 21 = .ok (.aload_n 0, 1) := by decide +kernel
theorem dX3_init_22 : decode cX3_init 22 = .ok (.bipush 64, 2) := by decide +kernel
theorem dX3_init_24 : decode cX3_init 24 = .ok (.newarray .int, 2) := by decide +kernel
theorem dX3_init_26 : decode cX3_init 26 = .ok (.putfield 21, 3) := by decide +kernel
theorem dX3_init_29 : decode cX3_init 29 = .ok (.aload_n 0, 1) := by decide +kernel
theorem dX3_init_30 : decode cX3_init 30 = .ok (.new 25, 3) := by decide +kernel
theorem dX3_init_33 : decode cX3_init 33 = .ok (.dup, 1) := by decide +kernel
theorem dX3_init_34 : decode cX3_init 34 = .ok (.invokespecial 27, 3) := by decide +kernel
theorem dX3_init_37 : decode cX3_init 37 = .ok (.putfield 28, 3) := by decide +kernel
theorem dX3_init_40 : decode cX3_init 40 = .ok (.aload_n 0, 1) := by decide +kernel
theorem dX3_init_41 : decode cX3_init 41 = .ok (.bipush 6, 2) := by decide +kernel
theorem dX3_init_43 : decode cX3_init 43 = .ok (.newarray .int, 2) := by decide +kernel
theorem dX3_init_45 : decode cX3_init 45 = .ok (.putfield 32, 3) := by decide +kernel
theorem dX3_init_48 : decode cX3_init 48 = .ok (.aload_n 0, 1) := by decide +kernel
theorem dX3_init_49 : decode cX3_init 49 = .ok (.bipush 6, 2) := by decide +kernel
theorem dX3_init_51 : decode cX3_init 51 = .ok (.newarray .int, 2) := by decide +kernel
theorem dX3_init_53 : decode cX3_init 53 = .ok (.putfield 35, 3) := by decide +kernel
theorem dX3_init_56 : decode cX3_init 56 = .ok (.aload_n 0, 1) := by decide +kernel
theorem dX3_init_57 : decode cX3_init 57 = .ok (.iconst 4, 1) := by decide +kernel
theorem dX3_init_58 : decode cX3_init 58 = .ok (.newarray .int, 2) := by decide +kernel
theorem dX3_init_60 : decode cX3_init 60 = .ok (.putfield 38, 3) := by decide +kernel
theorem dX3_init_63 : decode cX3_init 63 = .ok (.aload_n 0, 1) := by decide +kernel
theorem dX3_init_64 : decode cX3_init 64 = .ok (.iconst 0, 1) := by decide +kernel
theorem dX3_init_65 : decode cX3_init 65 = .ok (.putfield 41, 3) := by decide +kernel
theorem dX3_init_68 : decode cX3_init 68 = .ok (.aload_n 0, 1) := by decide +kernel
theorem dX3_init_69 : decode cX3_init 69 = .ok (.iconst 0, 1) := by decide +kernel
theorem dX3_init_70 : decode cX3_init 70 = .ok (.putfield 45, 3) := by decide +kernel
theorem dX3_init_73 : decode cX3_init 73 = .ok (.aload_n 0, 1) := by decide +kernel
theorem dX3_init_74 : decode cX3_init 74 = .ok (.sipush 9999, 3) := by decide +kernel
theorem dX3_init_77 : decode cX3_init 77 = .ok (.putfield 48, 3) := by decide +kernel
theorem dX3_init_80 : decode cX3_init 80 = .ok (.aload_n 0, 1) := by decide +kernel
theorem dX3_init_81 : decode cX3_init 81 = .ok (.iconst 0, 1) := by decide +kernel
theorem dX3_init_82 : decode cX3_init 82 = .ok (.putfield 51, 3) := by decide +kernel
theorem dX3_init_85 : decode cX3_init 85 = .ok (.aload_n 0, 1) := by decide +kernel
theorem dX3_init_86 : decode cX3_init 86 = .ok (.iconst 0, 1) := by decide +kernel
theorem dX3_init_87 : decode cX3_init 87 = .ok (.putfield 54, 3) := by decide +kernel
theorem dX3_init_90 : decode cX3_init 90 = .ok (.iconst 0, 1) := by decide +kernel
theorem dX3_init_91 : decode cX3_init 91 = .ok (.istore_n 1, 1) := by decide +kernel
theorem dX3_init_92 : decode cX3_init 92 = .ok (.iload_n 1, 1) := by decide +kernel
theorem dX3_init_93 : decode cX3_init 93 = .ok (.bipush 6, 2) := by decide +kernel
theorem dX3_init_95 : decode cX3_init 95 = .ok (.if_icmp .ge 30, 3) := by decide +kernel
theorem dX3_init_98 : decode cX3_init 98 = .ok (.aload_n 0, 1) := by decide +kernel
theorem dX3_init_99 : decode cX3_init 99 = .ok (.getfield 11, 3) := by decide +kernel
theorem dX3_init_102 : decode cX3_init 102 = .ok (.iload_n 1, 1) := by decide +kernel
theorem dX3_init_103 : decode cX3_init 103 = .ok (.new 9, 3) := by decide +kernel
theorem dX3_init_106 : decode cX3_init 106 = .ok (.dup, 1) := by decide +kernel
theorem dX3_init_107 : decode cX3_init 107 = .ok (.invokespecial 58, 3) := by decide +kernel
theorem dX3_init_110 : decode cX3_init 110 = .ok (.aastore, 1) := by decide +kernel
theorem dX3_init_111 : decode cX3_init 111 = .ok (.aload_n 0, 1) := by decide +kernel
theorem dX3_init_112 : decode cX3_init 112 = .ok (.getfield 32, 3) := by decide +kernel
theorem dX3_init_115 : decode cX3_init 115 = .ok (.iload_n 1, 1) := by decide +kernel
theorem dX3_init_116 : decode cX3_init 116 = .ok (.bipush (-9), 2) := by decide +kernel
theorem dX3_init_118 : decode cX3_init 118 = .ok (.iastore, 1) := by decide +kernel
theorem dX3_init_119 : decode cX3_init 119 = .ok (.iinc 1 1, 3) := by decide +kernel
theorem dX3_init_122 : decode cX3_init 122 = .ok (.goto (-30), 3) := by decide +kernel
theorem dX3_init_125 : decode cX3_init 125 = .ok (.iconst 0, 1) := by decide +kernel
theorem dX3_init_126 : decode cX3_init 126 = .ok (.istore_n 1, 1) := by decide +kernel
theorem dX3_init_127 : decode cX3_init 127 = .ok (.iload_n 1, 1) := by decide +kernel
theorem dX3_init_128 : decode cX3_init 128 = .ok (.iconst 4, 1) := by decide +kernel
theorem dX3_init_129 : decode cX3_init 129 = .ok (.if_icmp .ge 22, 3) := by decide +kernel
theorem dX3_init_132 : decode cX3_init 132 = .ok (.aload_n 0, 1) := by decide +kernel
theorem dX3_init_133 : decode cX3_init 133 = .ok (.getfield 17, 3) := by decide +kernel
theorem dX3_init_136 : decode cX3_init 136 = .ok (.iload_n 1, 1) := by decide +kernel
theorem dX3_init_137 : decode cX3_init 137 = .ok (.new 15, 3) := by decide +kernel
theorem dX3_init_140 : decode cX3_init 140 = .ok (.dup, 1) := by decide +kernel
theorem dX3_init_141 : decode cX3_init 141 = .ok (.invokespecial 59, 3) := by decide +kernel
theorem dX3_init_144 : decode cX3_init 144 = .ok (.aastore, 1) := by decide +kernel
theorem dX3_init_145 : decode cX3_init 145 = .ok (.iinc 1 1, 3) := by decide +kernel
theorem dX3_init_148 : decode cX3_init 148 = .ok (.goto (-21), 3) := by decide +kernel
theorem dX3_init_151 : decode cX3_init 151 = .ok (.return_, 1) := by decide +kernel
theorem dX3_tank_0 : decode cX3_tank 0 = .ok (.iload_n 1, 1) := by decide +kernel
theorem dX3_tank_1 : decode cX3_tank 1 = .ok (.iconst 1, 1) := by decide +kernel
theorem dX3_tank_2 : decode cX3_tank 2 = .ok (.bipush 99, 2) := by decide +kernel
theorem dX3_tank_4 : decode cX3_tank 4 = .ok (.invokestatic 60, 3) := by decide +kernel
theorem dX3_tank_7 : decode cX3_tank 7 = .ok (.ifCond .eq 23, 3) := by decide +kernel
theorem dX3_tank_10 : decode cX3_tank 10 = .ok (.iload_n 2, 1) := by decide +kernel
theorem dX3_tank_11 : decode cX3_tank 11 = .ok (.iconst 0, 1) := by decide +kernel
theorem dX3_tank_12 : decode cX3_tank 12 = .ok (.iconst 3, 1) := by decide +kernel
theorem dX3_tank_13 : decode cX3_tank 13 = .ok (.invokestatic 60, 3) := by decide +kernel
theorem dX3_tank_16 : decode cX3_tank 16 = .ok (.ifCond .eq 14, 3) := by decide +kernel
theorem dX3_tank_19 : decode cX3_tank 19 = .ok (.iload_n 3, 1) := by decide +kernel
theorem dX3_tank_20 : decode cX3_tank 20 = .ok (.bipush (-9), 2) := by decide +kernel
theorem dX3_tank_22 : decode cX3_tank 22 = .ok (.bipush 9, 2) := by decide +kernel
theorem dX3_tank_24 : decode cX3_tank 24 = .ok (.invokestatic 60, 3) := by decide +kernel
theorem dX3_tank_27 : decode cX3_tank 27 = .ok (.ifCond .ne 6, 3) := by decide +kernel
theorem dX3_tank_30 : decode cX3_tank 30 = .ok (.bipush (-2), 2) := by decide +kernel
theorem dX3_tank_32 : decode cX3_tank 32 = .ok (.ireturn, 1) := by decide +kernel
theorem dX3_tank_33 : decode cX3_tank 33 = .ok (.aload_n 0, 1) := by decide +kernel
theorem dX3_tank_34 : decode cX3_tank 34 = .ok (.getfield 41, 3) := by decide +kernel
theorem dX3_tank_37 : decode cX3_tank 37 = .ok (.bipush 6, 2) := by decide +kernel
theorem dX3_tank_39 : decode cX3_tank 39 = .ok (.if_icmp .lt 6, 3) := by decide +kernel
theorem dX3_tank_42 : decode cX3_tank 42 = .ok (.bipush (-4), 2) := by decide +kernel
theorem dX3_tank_44 : decode cX3_tank 44 = .ok (.ireturn, 1) := by decide +kernel
theorem dX3_tank_45 : decode cX3_tank 45 = .ok (.aload_n 0, 1) := by decide +kernel
theorem dX3_tank_46 : decode cX3_tank 46 = .ok (.getfield 41, 3) := by decide +kernel
theorem dX3_tank_49 : decode cX3_tank 49 = .ok (.istore 4, 2) := by decide +kernel
theorem dX3_tank_51 : decode cX3_tank 51 = .ok (.aload_n 0, 1) := by decide +kernel
theorem dX3_tank_52 : decode cX3_tank 52 = .ok (.getfield 11, 3) := by decide +kernel
theorem dX3_tank_55 : decode cX3_tank 55 = .ok (.iload 4, 2) := by decide +kernel
theorem dX3_tank_57 : decode cX3_tank 57 = .ok (.aaload, 1) := by decide +kernel
theorem dX3_tank_58 : decode cX3_tank 58 = .ok (.astore 5, 2) := by decide +kernel
theorem dX3_tank_60 : decode cX3_tank 60 = .ok (.aload 5, 2) := by decide +kernel
theorem dX3_tank_62 : decode cX3_tank 62 = .ok (.iload_n 1, 1) := by decide +kernel
theorem dX3_tank_63 : decode cX3_tank 63 = .ok (.putfield 64, 3) := by decide +kernel
theorem dX3_tank_66 : decode cX3_tank 66 = .ok (.aload 5, 2) := by decide +kernel
theorem dX3_tank_68 : decode cX3_tank 68 = .ok (.iload_n 2, 1) := by decide +kernel
theorem dX3_tank_69 : decode cX3_tank 69 = .ok (.putfield 67, 3) := by decide +kernel
theorem dX3_tank_72 : decode cX3_tank 72 = .ok (.aload 5, 2) := by decide +kernel
theorem dX3_tank_74 : decode cX3_tank 74 = .ok (.iload_n 3, 1) := by decide +kernel
theorem dX3_tank_75 : decode cX3_tank 75 = .ok (.putfield 70, 3) := by decide +kernel
theorem dX3_tank_78 : decode cX3_tank 78 = .ok (.aload_n 0, 1) := by decide +kernel
theorem dX3_tank_79 : decode cX3_tank 79 = .ok (.iload 4, 2) := by decide +kernel
theorem dX3_tank_81 : decode cX3_tank 81 = .ok (.iconst 1, 1) := by decide +kernel
theorem dX3_tank_82 : decode cX3_tank 82 = .ok (.iadd, 1) := by decide +kernel
theorem dX3_tank_83 : decode cX3_tank 83 = .ok (.putfield 41, 3) := by decide +kernel
theorem dX3_tank_86 : decode cX3_tank 86 = .ok (.aload_n 0, 1) := by decide +kernel
theorem dX3_tank_87 : decode cX3_tank 87 = .ok (.iconst 0, 1) := by decide +kernel
theorem dX3_tank_88 : decode cX3_tank 88 = .ok (.putfield 54, 3) := by decide +kernel
theorem dX3_tank_91 : decode cX3_tank 91 = .ok (.iload 4, 2) := by decide +kernel
theorem dX3_tank_93 : decode cX3_tank 93 = .ok (.ireturn, 1) := by decide +kernel
theorem dX3_neighbours_0 : decode cX3_neighbours 0 = .ok (.aload_n 0, 1) := by decide +kernel
theorem dX3_neighbours_1 : decode cX3_neighbours 1 = .ok (.iload_n 1, 1) := by decide +kernel
theorem dX3_neighbours_2 : decode cX3_neighbours 2 = .ok (.iload_n 2, 1) := by decide +kernel
theorem dX3_neighbours_3 : decode cX3_neighbours 3 = .ok (.invokevirtual 73, 3) := by decide +kernel
theorem dX3_neighbours_6 : decode cX3_neighbours 6 = .ok (.ifCond .ne 5, 3) := by decide +kernel
theorem dX3_neighbours_9 : decode cX3_neighbours 9 = .ok (.iconst (-1), 1) := by decide +kernel
theorem dX3_neighbours_10 : decode cX3_neighbours 10 = .ok (.ireturn, 1) := by decide +kernel
theorem dX3_neighbours_11 : decode cX3_neighbours 11 = .ok (.aload_n 0, 1) := by decide +kernel
theorem dX3_neighbours_12 : decode cX3_neighbours 12 = .ok (.getfield 11, 3) := by decide +kernel
theorem dX3_neighbours_15 : decode cX3_neighbours 15 = .ok (.iload_n 1, 1) := by decide +kernel
theorem dX3_neighbours_16 : decode cX3_neighbours 16 = .ok (.aaload, 1) := by decide +kernel
theorem dX3_neighbours_17 : decode cX3_neighbours 17 = .ok (.getfield 77, 3) := by decide +kernel
theorem dX3_neighbours_20 : decode cX3_neighbours 20 = .ok (.iload_n 2, 1) := by decide +kernel
theorem dX3_neighbours_21 : decode cX3_neighbours 21 = .ok (.invokestatic 80, 3) := by decide +kernel
theorem dX3_neighbours_24 : decode cX3_neighbours 24 = .ok (.iload_n 3, 1) := by decide +kernel
theorem dX3_neighbours_25 : decode cX3_neighbours 25 = .ok (.if_icmp .ne 5, 3) := by decide +kernel
theorem dX3_neighbours_28 : decode cX3_neighbours 28 = .ok (.iconst 0, 1) := by decide +kernel
theorem dX3_neighbours_29 : decode cX3_neighbours 29 = .ok (.ireturn, 1) := by decide +kernel
theorem dX3_neighbours_30 : decode cX3_neighbours 30 = .ok (.aload_n 0, 1) := by decide +kernel
theorem dX3_neighbours_31 : decode cX3_neighbours 31 = .ok (.getfield 11, 3) := by decide +kernel
theorem dX3_neighbours_34 : decode cX3_neighbours 34 = .ok (.iload_n 1, 1) := by decide +kernel
theorem dX3_neighbours_35 : decode cX3_neighbours 35 = .ok (.aaload, 1) := by decide +kernel
theorem dX3_neighbours_36 : decode cX3_neighbours 36 = .ok (.dup, 1) := by decide +kernel
theorem dX3_neighbours_37 : decode cX3_neighbours 37 = .ok (.getfield 77, 3) := by decide +kernel
theorem dX3_neighbours_40 : decode cX3_neighbours 40 = .ok (.iconst 1, 1) := by decide +kernel
theorem dX3_neighbours_41 : decode cX3_neighbours 41 = .ok (.iload_n 2, 1) := by decide +kernel
theorem dX3_neighbours_42 : decode cX3_neighbours 42 = .ok (.ishl, 1) := by decide +kernel
theorem dX3_neighbours_43 : decode cX3_neighbours 43 = .ok (.ixor, 1) := by decide +kernel
theorem dX3_neighbours_44 : decode cX3_neighbours 44 = .ok (.putfield 77, 3) := by decide +kernel
theorem dX3_neighbours_47 : decode cX3_neighbours 47 = .ok (.aload_n 0, 1) := by decide +kernel
theorem dX3_neighbours_48 : decode cX3_neighbours 48 = .ok (.getfield 11, 3) := by decide +kernel
theorem dX3_neighbours_51 : decode cX3_neighbours 51 = .ok (.iload_n 2, 1) := by decide +kernel
theorem dX3_neighbours_52 : decode cX3_neighbours 52 = .ok (.aaload, 1) := by decide +kernel
theorem dX3_neighbours_53 : decode cX3_neighbours 53 = .ok (.dup, 1) := by decide +kernel
theorem dX3_neighbours_54 : decode cX3_neighbours 54 = .ok (.getfield 77, 3) := by decide +kernel
theorem dX3_neighbours_57 : decode cX3_neighbours 57 = .ok (.iconst 1, 1) := by decide +kernel
theorem dX3_neighbours_58 : decode cX3_neighbours 58 = .ok (.iload_n 1, 1) := by decide +kernel
theorem dX3_neighbours_59 : decode cX3_neighbours 59 = .ok (.ishl, 1) := by decide +kernel
theorem dX3_neighbours_60 : decode cX3_neighbours 60 = .ok (.ixor, 1) := by decide +kernel
theorem dX3_neighbours_61 : decode cX3_neighbours 61 = .ok (.putfield 77, 3) := by decide +kernel
theorem dX3_neighbours_64 : decode cX3_neighbours 64 = .ok (.aload_n 0, 1) := by decide +kernel
theorem dX3_neighbours_65 : decode cX3_neighbours 65 = .ok (.iconst 0, 1) := by decide +kernel
theorem dX3_neighbours_66 : decode cX3_neighbours 66 = .ok (.putfield 54, 3) := by decide +kernel
theorem dX3_neighbours_69 : decode cX3_neighbours 69 = .ok (.iconst 1, 1) := by decide +kernel
theorem dX3_neighbours_70 : decode cX3_neighbours 70 = .ok (.ireturn, 1) := by decide +kernel
theorem dX3_latest_0 : decode cX3_latest 0 = .ok (.aload_n 0, 1) := by decide +kernel
theorem dX3_latest_1 : decode cX3_latest 1 = .ok (.iload_n 1, 1) := by decide +kernel
theorem dX3_latest_2 : decode cX3_latest 2 = .ok (.invokevirtual 83, 3) := by decide +kernel
theorem dX3_latest_5 : decode cX3_latest 5 = .ok (.ifCond .ne 5, 3) := by decide +kernel
theorem dX3_latest_8 : decode cX3_latest 8 = .ok (.iconst (-1), 1) := by decide +kernel
theorem dX3_latest_9 : decode cX3_latest 9 = .ok (.ireturn, 1) := by decide +kernel
theorem dX3_latest_10 : decode cX3_latest 10 = .ok (.iload_n 2, 1) := by decide +kernel
theorem dX3_latest_11 : decode cX3_latest 11 = .ok (.iconst 0, 1) := by decide +kernel
theorem dX3_latest_12 : decode cX3_latest 12 = .ok (.iconst 2, 1) := by decide +kernel
theorem dX3_latest_13 : decode cX3_latest 13 = .ok (.invokestatic 60, 3) := by decide +kernel
theorem dX3_latest_16 : decode cX3_latest 16 = .ok (.ifCond .eq 16, 3) := by decide +kernel
theorem dX3_latest_19 : decode cX3_latest 19 = .ok (.iload_n 3, 1) := by decide +kernel
theorem dX3_latest_20 : decode cX3_latest 20 = .ok (.bipush (-9), 2) := by decide +kernel
theorem dX3_latest_22 : decode cX3_latest 22 = .ok (.if_icmp .eq 13, 3) := by decide +kernel
theorem dX3_latest_25 : decode cX3_latest 25 = .ok (.iload_n 3, 1) := by decide +kernel
theorem dX3_latest_26 : decode cX3_latest 26 = .ok (.invokestatic 87, 3) := by decide +kernel
theorem dX3_latest_29 : decode cX3_latest 29 = .ok (.ifCond .ne 6, 3) := by decide +kernel
theorem dX3_latest_32 : decode cX3_latest 32 = .ok (.bipush (-2), 2) := by decide +kernel
theorem dX3_latest_34 : decode cX3_latest 34 = .ok (.ireturn, 1) := by decide +kernel
theorem dX3_latest_35 : decode cX3_latest 35 = .ok (.aload_n 0, 1) := by decide +kernel
theorem dX3_latest_36 : decode cX3_latest 36 = .ok (.getfield 11, 3) := by decide +kernel
theorem dX3_latest_39 : decode cX3_latest 39 = .ok (.iload_n 1, 1) := by decide +kernel
theorem dX3_latest_40 : decode cX3_latest 40 = .ok (.aaload, 1) := by decide +kernel
theorem dX3_latest_41 : decode cX3_latest 41 = .ok (.getfield 90, 3) := by decide +kernel
theorem dX3_latest_44 : decode cX3_latest 44 = .ok (.iload_n 2, 1) := by decide +kernel
theorem dX3_latest_45 : decode cX3_latest 45 = .ok (.iaload, 1) := by decide +kernel
theorem dX3_latest_46 : decode cX3_latest 46 = .ok (.istore 4, 2) := by decide +kernel
theorem dX3_latest_48 : decode cX3_latest 48 = .ok (.aload_n 0, 1) := by decide +kernel
theorem dX3_latest_49 : decode cX3_latest 49 = .ok (.getfield 11, 3) := by decide +kernel
theorem dX3_latest_52 : decode cX3_latest 52 = .ok (.iload_n 1, 1) := by decide +kernel
theorem dX3_latest_53 : decode cX3_latest 53 = .ok (.aaload, 1) := by decide +kernel
theorem dX3_latest_54 : decode cX3_latest 54 = .ok (.getfield 90, 3) := by decide +kernel
theorem dX3_latest_57 : decode cX3_latest 57 = .ok (.iload_n 2, 1) := by decide +kernel
theorem dX3_latest_58 : decode cX3_latest 58 = .ok (.iload_n 3, 1) := by decide +kernel
theorem dX3_latest_59 : decode cX3_latest 59 = .ok (.iastore, 1) := by decide +kernel
theorem dX3_latest_60 : decode cX3_latest 60 = .ok (.aload_n 0, 1) := by decide +kernel
theorem dX3_latest_61 : decode cX3_latest 61 = .ok (.iconst 0, 1) := by decide +kernel
theorem dX3_latest_62 : decode cX3_latest 62 = .ok (.putfield 54, 3) := by decide +kernel
theorem dX3_latest_65 : decode cX3_latest 65 = .ok (.iload 4, 2) := by decide +kernel
theorem dX3_latest_67 : decode cX3_latest 67 = .ok (.ireturn, 1) := by decide +kernel
theorem dX3_cargo_0 : decode cX3_cargo 0 = .ok (.iload_n 1, 1) := by decide +kernel
theorem dX3_cargo_1 : decode cX3_cargo 1 = .ok (.invokestatic 87, 3) := by decide +kernel
theorem dX3_cargo_4 : decode cX3_cargo 4 = .ok (.ifCond .ne 5, 3) := by decide +kernel
theorem dX3_cargo_7 : decode cX3_cargo 7 = .ok (.iconst (-1), 1) := by decide +kernel
theorem dX3_cargo_8 : decode cX3_cargo 8 = .ok (.ireturn, 1) := by decide +kernel
theorem dX3_cargo_9 : decode cX3_cargo 9 = .ok (.iload_n 2, 1) := by decide +kernel
theorem dX3_cargo_10 : decode cX3_cargo 10 = .ok (.invokestatic 93, 3) := by decide +kernel
theorem dX3_cargo_13 : decode cX3_cargo 13 = .ok (.ifCond .eq 37, 3) := by decide +kernel
theorem dX3_cargo_16 : decode cX3_cargo 16 = .ok (.iload_n 3, 1) := by decide +kernel
theorem dX3_cargo_17 : decode cX3_cargo 17 = .ok (.iconst 0, 1) := by decide +kernel
theorem dX3_cargo_18 : decode cX3_cargo 18 = .ok (.bipush 15, 2) := by decide +kernel
theorem dX3_cargo_20 : decode cX3_cargo 20 = .ok (.invokestatic 60, 3) := by decide +kernel
theorem dX3_cargo_23 : decode cX3_cargo 23 = .ok (.ifCond .eq 27, 3) := by decide +kernel
theorem dX3_cargo_26 : decode cX3_cargo 26 = .ok (.iload 4, 2) := by decide +kernel
theorem dX3_cargo_28 : decode cX3_cargo 28 = .ok (.invokestatic 96, 3) := by decide +kernel
theorem dX3_cargo_31 : decode cX3_cargo 31 = .ok (.ifCond .eq 19, 3) := by decide +kernel
theorem dX3_cargo_34 : decode cX3_cargo 34 = .ok (.iload 5, 2) := by decide +kernel
theorem dX3_cargo_36 : decode cX3_cargo 36 = .ok (.invokestatic 96, 3) := by decide +kernel
theorem dX3_cargo_39 : decode cX3_cargo 39 = .ok (.ifCond .eq 11, 3) := by decide +kernel
theorem dX3_cargo_42 : decode cX3_cargo 42 = .ok (.iload 6, 2) := by decide +kernel
theorem dX3_cargo_44 : decode cX3_cargo 44 = .ok (.invokestatic 96, 3) := by decide +kernel
theorem dX3_cargo_47 : decode cX3_cargo 47 = .ok (.ifCond .ne 6, 3) := by decide +kernel
theorem dX3_cargo_50 : decode cX3_cargo 50 = .ok (.bipush (-2), 2) := by decide +kernel
theorem dX3_cargo_52 : decode cX3_cargo 52 = .ok (.ireturn, 1) := by decide +kernel
theorem dX3_cargo_53 : decode cX3_cargo 53 = .ok (.aload_n 0, 1) := by decide +kernel
theorem dX3_cargo_54 : decode cX3_cargo 54 = .ok (.getfield 45, 3) := by decide +kernel
theorem dX3_cargo_57 : decode cX3_cargo 57 = .ok (.iconst 4, 1) := by decide +kernel
theorem dX3_cargo_58 : decode cX3_cargo 58 = .ok (.if_icmp .lt 6, 3) := by decide +kernel
theorem dX3_cargo_61 : decode cX3_cargo 61 = .ok (.bipush (-4), 2) := by decide +kernel
theorem dX3_cargo_63 : decode cX3_cargo 63 = .ok (.ireturn, 1) := by decide +kernel
theorem dX3_cargo_64 : decode cX3_cargo 64 = .ok (.aload_n 0, 1) := by decide +kernel
theorem dX3_cargo_65 : decode cX3_cargo 65 = .ok (.getfield 45, 3) := by decide +kernel
theorem dX3_cargo_68 : decode cX3_cargo 68 = .ok (.istore 7, 2) := by decide +kernel
theorem dX3_cargo_70 : decode cX3_cargo 70 = .ok (.aload_n 0, 1) := by decide +kernel
theorem dX3_cargo_71 : decode cX3_cargo 71 = .ok (.getfield 17, 3) := by decide +kernel
theorem dX3_cargo_74 : decode cX3_cargo 74 = .ok (.iload 7, 2) := by decide +kernel
theorem dX3_cargo_76 : decode cX3_cargo 76 = .ok (.aaload, 1) := by decide +kernel
theorem dX3_cargo_77 : decode cX3_cargo 77 = .ok (.astore 8, 2) := by decide +kernel
theorem dX3_cargo_79 : decode cX3_cargo 79 = .ok (.aload 8, 2) := by decide +kernel
theorem dX3_cargo_81 : decode cX3_cargo 81 = .ok (.iload_n 1, 1) := by decide +kernel
theorem dX3_cargo_82 : decode cX3_cargo 82 = .ok (.putfield 99, 3) := by decide +kernel
theorem dX3_cargo_85 : decode cX3_cargo 85 = .ok (.aload 8, 2) := by decide +kernel
theorem dX3_cargo_87 : decode cX3_cargo 87 = .ok (.iload_n 2, 1) := by decide +kernel
theorem dX3_cargo_88 : decode cX3_cargo 88 = .ok (.putfield 102, 3) := by decide +kernel
theorem dX3_cargo_91 : decode cX3_cargo 91 = .ok (.aload 8, 2) := by decide +kernel
theorem dX3_cargo_93 : decode cX3_cargo 93 = .ok (.iload_n 3, 1) := by decide +kernel
theorem dX3_cargo_94 : decode cX3_cargo 94 = .ok (.putfield 105, 3) := by decide +kernel
theorem dX3_cargo_97 : decode cX3_cargo 97 = .ok (.aload 8, 2) := by decide +kernel
theorem dX3_cargo_99 : decode cX3_cargo 99 = .ok (.iload 4, 2) := by decide +kernel
theorem dX3_cargo_101 : decode cX3_cargo 101 = .ok (.putfield 108, 3) := by decide +kernel
theorem dX3_cargo_104 : decode cX3_cargo 104 = .ok (.aload 8, 2) := by decide +kernel
theorem dX3_cargo_106 : decode cX3_cargo 106 = .ok (.iload 5, 2) := by decide +kernel
theorem dX3_cargo_108 : decode cX3_cargo 108 = .ok (.putfield 111, 3) := by decide +kernel
theorem dX3_cargo_111 : decode cX3_cargo 111 = .ok (.aload 8, 2) := by decide +kernel
theorem dX3_cargo_113 : decode cX3_cargo 113 = .ok (.iload 6, 2) := by decide +kernel
theorem dX3_cargo_115 : decode cX3_cargo 115 = .ok (.putfield 114, 3) := by decide +kernel
theorem dX3_cargo_118 : decode cX3_cargo 118 = .ok (.aload_n 0, 1) := by decide +kernel
theorem dX3_cargo_119 : decode cX3_cargo 119 = .ok (.iload 7, 2) := by decide +kernel
theorem dX3_cargo_121 : decode cX3_cargo 121 = .ok (.iconst 1, 1) := by decide +kernel
theorem dX3_cargo_122 : decode cX3_cargo 122 = .ok (.iadd, 1) := by decide +kernel
theorem dX3_cargo_123 : decode cX3_cargo 123 = .ok (.putfield 45, 3) := by decide +kernel
theorem dX3_cargo_126 : decode cX3_cargo 126 = .ok (.aload_n 0, 1) := by decide +kernel
theorem dX3_cargo_127 : decode cX3_cargo 127 = .ok (.iconst 0, 1) := by decide +kernel
theorem dX3_cargo_128 : decode cX3_cargo 128 = .ok (.putfield 54, 3) := by decide +kernel
theorem dX3_cargo_131 : decode cX3_cargo 131 = .ok (.iload 7, 2) := by decide +kernel
theorem dX3_cargo_133 : decode cX3_cargo 133 = .ok (.ireturn, 1) := by decide +kernel
theorem dX3_uncargo_0 : decode cX3_uncargo 0 = .ok (.aload_n 0, 1) := by decide +kernel
theorem dX3_uncargo_1 : decode cX3_uncargo 1 = .ok (.getfield 45, 3) := by decide +kernel
theorem dX3_uncargo_4 : decode cX3_uncargo 4 = .ok (.iconst 1, 1) := by decide +kernel
theorem dX3_uncargo_5 : decode cX3_uncargo 5 = .ok (.isub, 1) := by decide +kernel
theorem dX3_uncargo_6 : decode cX3_uncargo 6 = .ok (.istore_n 1, 1) := by decide +kernel
theorem dX3_uncargo_7 : decode cX3_uncargo 7 = .ok (.iload_n 1, 1) := by decide +kernel
theorem dX3_uncargo_8 : decode cX3_uncargo 8 = .ok (.ifCond .lt 11, 3) := by decide +kernel
theorem dX3_uncargo_11 : decode cX3_uncargo 11 = .ok (.aload_n 0, 1) := by decide +kernel
theorem dX3_uncargo_12 : decode cX3_uncargo 12 = .ok (.iload_n 1, 1) := by decide +kernel
theorem dX3_uncargo_13 : decode cX3_uncargo 13 = .ok (.invokevirtual 117, 3) := by decide +kernel
theorem dX3_uncargo_16 : decode cX3_uncargo 16 = .ok (.ifCond .le 6, 3) := by decide +kernel
theorem dX3_uncargo_19 : decode cX3_uncargo 19 = .ok (.bipush (-3), 2) := by decide +kernel
theorem dX3_uncargo_21 : decode cX3_uncargo 21 = .ok (.ireturn, 1) := by decide +kernel
theorem dX3_uncargo_22 : decode cX3_uncargo 22 = .ok (.iconst 0, 1) := by decide +kernel
theorem dX3_uncargo_23 : decode cX3_uncargo 23 = .ok (.istore_n 2, 1) := by decide +kernel
theorem dX3_uncargo_24 : decode cX3_uncargo 24 = .ok (.iload_n 2, 1) := by decide +kernel
theorem dX3_uncargo_25 : decode cX3_uncargo 25 = .ok (.bipush 6, 2) := by decide +kernel
theorem dX3_uncargo_27 : decode cX3_uncargo 27 = .ok (.if_icmp .ge 27, 3) := by decide +kernel
theorem dX3_uncargo_30 : decode cX3_uncargo 30 = .ok (.aload_n 0, 1) := by decide +kernel
theorem dX3_uncargo_31 : decode cX3_uncargo 31 = .ok (.getfield 32, 3) := by decide +kernel
theorem dX3_uncargo_34 : decode cX3_uncargo 34 = .ok (.iload_n 2, 1) := by decide +kernel
theorem dX3_uncargo_35 : decode cX3_uncargo 35 = .ok (.iaload, 1) := by decide +kernel
theorem dX3_uncargo_36 : decode cX3_uncargo 36 = .ok (.iload_n 1, 1) := by decide +kernel
theorem dX3_uncargo_37 : decode cX3_uncargo 37 = .ok (.if_icmp .ne 11, 3) := by decide +kernel
theorem dX3_uncargo_40 : decode cX3_uncargo 40 = .ok (.aload_n 0, 1) := by decide +kernel
theorem dX3_uncargo_41 : decode cX3_uncargo 41 = .ok (.getfield 32, 3) := by decide +kernel
theorem dX3_uncargo_44 : decode cX3_uncargo 44 = .ok (.iload_n 2, 1) := by decide +kernel
theorem dX3_uncargo_45 : decode cX3_uncargo 45 = .ok (.bipush (-9), 2) := by decide +kernel
theorem dX3_uncargo_47 : decode cX3_uncargo 47 = .ok (.iastore, 1) := by decide +kernel
theorem dX3_uncargo_48 : decode cX3_uncargo 48 = .ok (.iinc 2 1, 3) := by decide +kernel
theorem dX3_uncargo_51 : decode cX3_uncargo 51 = .ok (.goto (-27), 3) := by decide +kernel
theorem dX3_uncargo_54 : decode cX3_uncargo 54 = .ok (.aload_n 0, 1) := by decide +kernel
theorem dX3_uncargo_55 : decode cX3_uncargo 55 = .ok (.iload_n 1, 1) := by decide +kernel
theorem dX3_uncargo_56 : decode cX3_uncargo 56 = .ok (.putfield 45, 3) := by decide +kernel
theorem dX3_uncargo_59 : decode cX3_uncargo 59 = .ok (.aload_n 0, 1) := by decide +kernel
theorem dX3_uncargo_60 : decode cX3_uncargo 60 = .ok (.iconst 0, 1) := by decide +kernel
theorem dX3_uncargo_61 : decode cX3_uncargo 61 = .ok (.putfield 54, 3) := by decide +kernel
theorem dX3_uncargo_64 : decode cX3_uncargo 64 = .ok (.iload_n 1, 1) := by decide +kernel
theorem dX3_uncargo_65 : decode cX3_uncargo 65 = .ok (.ireturn, 1) := by decide +kernel
theorem dX3_amount_0 : decode cX3_amount 0 = .ok (.aload_n 0, 1) := by decide +kernel
theorem dX3_amount_1 : decode cX3_amount 1 = .ok (.iload_n 1, 1) := by decide +kernel
theorem dX3_amount_2 : decode cX3_amount 2 = .ok (.invokevirtual 121, 3) := by decide +kernel
theorem dX3_amount_5 : decode cX3_amount 5 = .ok (.ifCond .ne 5, 3) := by decide +kernel
theorem dX3_amount_8 : decode cX3_amount 8 = .ok (.iconst (-1), 1) := by decide +kernel
theorem dX3_amount_9 : decode cX3_amount 9 = .ok (.ireturn, 1) := by decide +kernel
theorem dX3_amount_10 : decode cX3_amount 10 = .ok (.iload_n 2, 1) := by decide +kernel
theorem dX3_amount_11 : decode cX3_amount 11 = .ok (.invokestatic 93, 3) := by decide +kernel
theorem dX3_amount_14 : decode cX3_amount 14 = .ok (.ifCond .ne 6, 3) := by decide +kernel
theorem dX3_amount_17 : decode cX3_amount 17 = .ok (.bipush (-2), 2) := by decide +kernel
theorem dX3_amount_19 : decode cX3_amount 19 = .ok (.ireturn, 1) := by decide +kernel
theorem dX3_amount_20 : decode cX3_amount 20 = .ok (.aload_n 0, 1) := by decide +kernel
theorem dX3_amount_21 : decode cX3_amount 21 = .ok (.iload_n 1, 1) := by decide +kernel
theorem dX3_amount_22 : decode cX3_amount 22 = .ok (.invokevirtual 117, 3) := by decide +kernel
theorem dX3_amount_25 : decode cX3_amount 25 = .ok (.ifCond .le 6, 3) := by decide +kernel
theorem dX3_amount_28 : decode cX3_amount 28 = .ok (.bipush (-3), 2) := by decide +kernel
theorem dX3_amount_30 : decode cX3_amount 30 = .ok (.ireturn, 1) := by decide +kernel
theorem dX3_amount_31 : decode cX3_amount 31 = .ok (.aload_n 0, 1) := by decide +kernel
theorem dX3_amount_32 : decode cX3_amount 32 = .ok (.getfield 17, 3) := by decide +kernel
theorem dX3_amount_35 : decode cX3_amount 35 = .ok (.iload_n 1, 1) := by decide +kernel
theorem dX3_amount_36 : decode cX3_amount 36 = .ok (.aaload, 1) := by decide +kernel
theorem dX3_amount_37 : decode cX3_amount 37 = .ok (.getfield 102, 3) := by decide +kernel
theorem dX3_amount_40 : decode cX3_amount 40 = .ok (.istore_n 3, 1) := by decide +kernel
theorem dX3_amount_41 : decode cX3_amount 41 = .ok (.aload_n 0, 1) := by decide +kernel
theorem dX3_amount_42 : decode cX3_amount 42 = .ok (.getfield 17, 3) := by decide +kernel
theorem dX3_amount_45 : decode cX3_amount 45 = .ok (.iload_n 1, 1) := by decide +kernel
theorem dX3_amount_46 : decode cX3_amount 46 = .ok (.aaload, 1) := by decide +kernel
theorem dX3_amount_47 : decode cX3_amount 47 = .ok (.iload_n 2, 1) := by decide +kernel
theorem dX3_amount_48 : decode cX3_amount 48 = .ok (.putfield 102, 3) := by decide +kernel
theorem dX3_amount_51 : decode cX3_amount 51 = .ok (.aload_n 0, 1) := by decide +kernel
theorem dX3_amount_52 : decode cX3_amount 52 = .ok (.iconst 0, 1) := by decide +kernel
theorem dX3_amount_53 : decode cX3_amount 53 = .ok (.putfield 54, 3) := by decide +kernel
theorem dX3_amount_56 : decode cX3_amount 56 = .ok (.iload_n 3, 1) := by decide +kernel
theorem dX3_amount_57 : decode cX3_amount 57 = .ok (.ireturn, 1) := by decide +kernel
theorem dX3_washes_0 : decode cX3_washes 0 = .ok (.iload_n 1, 1) := by decide +kernel
theorem dX3_washes_1 : decode cX3_washes 1 = .ok (.invokestatic 87, 3) := by decide +kernel
theorem dX3_washes_4 : decode cX3_washes 4 = .ok (.ifCond .eq 10, 3) := by decide +kernel
theorem dX3_washes_7 : decode cX3_washes 7 = .ok (.iload_n 2, 1) := by decide +kernel
theorem dX3_washes_8 : decode cX3_washes 8 = .ok (.invokestatic 87, 3) := by decide +kernel
theorem dX3_washes_11 : decode cX3_washes 11 = .ok (.ifCond .ne 5, 3) := by decide +kernel
theorem dX3_washes_14 : decode cX3_washes 14 = .ok (.iconst (-1), 1) := by decide +kernel
theorem dX3_washes_15 : decode cX3_washes 15 = .ok (.ireturn, 1) := by decide +kernel
theorem dX3_washes_16 : decode cX3_washes 16 = .ok (.iload_n 3, 1) := by decide +kernel
theorem dX3_washes_17 : decode cX3_washes 17 = .ok (.iconst 0, 1) := by decide +kernel
theorem dX3_washes_18 : decode cX3_washes 18 = .ok (.iconst 3, 1) := by decide +kernel
theorem dX3_washes_19 : decode cX3_washes 19 = .ok (.invokestatic 60, 3) := by decide +kernel
theorem dX3_washes_22 : decode cX3_washes 22 = .ok (.ifCond .ne 6, 3) := by decide +kernel
theorem dX3_washes_25 : decode cX3_washes 25 = .ok (.bipush (-2), 2) := by decide +kernel
theorem dX3_washes_27 : decode cX3_washes 27 = .ok (.ireturn, 1) := by decide +kernel
theorem dX3_washes_28 : decode cX3_washes 28 = .ok (.iload_n 1, 1) := by decide +kernel
theorem dX3_washes_29 : decode cX3_washes 29 = .ok (.bipush 8, 2) := by decide +kernel
theorem dX3_washes_31 : decode cX3_washes 31 = .ok (.imul, 1) := by decide +kernel
theorem dX3_washes_32 : decode cX3_washes 32 = .ok (.iload_n 2, 1) := by decide +kernel
theorem dX3_washes_33 : decode cX3_washes 33 = .ok (.iadd, 1) := by decide +kernel
theorem dX3_washes_34 : decode cX3_washes 34 = .ok (.istore 4, 2) := by decide +kernel
theorem dX3_washes_36 : decode cX3_washes 36 = .ok (.aload_n 0, 1) := by decide +kernel
theorem dX3_washes_37 : decode cX3_washes 37 = .ok (.getfield 21, 3) := by decide +kernel
theorem dX3_washes_40 : decode cX3_washes 40 = .ok (.iload 4, 2) := by decide +kernel
theorem dX3_washes_42 : decode cX3_washes 42 = .ok (.iaload, 1) := by decide +kernel
theorem dX3_washes_43 : decode cX3_washes 43 = .ok (.istore 5, 2) := by decide +kernel
theorem dX3_washes_45 : decode cX3_washes 45 = .ok (.aload_n 0, 1) := by decide +kernel
theorem dX3_washes_46 : decode cX3_washes 46 = .ok (.getfield 21, 3) := by decide +kernel
theorem dX3_washes_49 : decode cX3_washes 49 = .ok (.iload 4, 2) := by decide +kernel
theorem dX3_washes_51 : decode cX3_washes 51 = .ok (.iload_n 3, 1) := by decide +kernel
theorem dX3_washes_52 : decode cX3_washes 52 = .ok (.iastore, 1) := by decide +kernel
theorem dX3_washes_53 : decode cX3_washes 53 = .ok (.aload_n 0, 1) := by decide +kernel
theorem dX3_washes_54 : decode cX3_washes 54 = .ok (.iconst 0, 1) := by decide +kernel
theorem dX3_washes_55 : decode cX3_washes 55 = .ok (.putfield 54, 3) := by decide +kernel
theorem dX3_washes_58 : decode cX3_washes 58 = .ok (.iload 5, 2) := by decide +kernel
theorem dX3_washes_60 : decode cX3_washes 60 = .ok (.ireturn, 1) := by decide +kernel
theorem dX3_bound_0 : decode cX3_bound 0 = .ok (.iload_n 1, 1) := by decide +kernel
theorem dX3_bound_1 : decode cX3_bound 1 = .ok (.iconst 0, 1) := by decide +kernel
theorem dX3_bound_2 : decode cX3_bound 2 = .ok (.sipush 9999, 3) := by decide +kernel
theorem dX3_bound_5 : decode cX3_bound 5 = .ok (.invokestatic 60, 3) := by decide +kernel
theorem dX3_bound_8 : decode cX3_bound 8 = .ok (.ifCond .ne 6, 3) := by decide +kernel
theorem dX3_bound_11 : decode cX3_bound 11 = .ok (.bipush (-2), 2) := by decide +kernel
theorem dX3_bound_13 : decode cX3_bound 13 = .ok (.ireturn, 1) := by decide +kernel
theorem dX3_bound_14 : decode cX3_bound 14 = .ok (.aload_n 0, 1) := by decide +kernel
theorem dX3_bound_15 : decode cX3_bound 15 = .ok (.getfield 48, 3) := by decide +kernel
theorem dX3_bound_18 : decode cX3_bound 18 = .ok (.istore_n 2, 1) := by decide +kernel
theorem dX3_bound_19 : decode cX3_bound 19 = .ok (.aload_n 0, 1) := by decide +kernel
theorem dX3_bound_20 : decode cX3_bound 20 = .ok (.iload_n 1, 1) := by decide +kernel
theorem dX3_bound_21 : decode cX3_bound 21 = .ok (.putfield 48, 3) := by decide +kernel
theorem dX3_bound_24 : decode cX3_bound 24 = .ok (.aload_n 0, 1) := by decide +kernel
theorem dX3_bound_25 : decode cX3_bound 25 = .ok (.iconst 0, 1) := by decide +kernel
theorem dX3_bound_26 : decode cX3_bound 26 = .ok (.putfield 54, 3) := by decide +kernel
theorem dX3_bound_29 : decode cX3_bound 29 = .ok (.iload_n 2, 1) := by decide +kernel
theorem dX3_bound_30 : decode cX3_bound 30 = .ok (.ireturn, 1) := by decide +kernel
theorem dX3_ofTank_0 : decode cX3_ofTank 0 = .ok (.aload_n 0, 1) := by decide +kernel
theorem dX3_ofTank_1 : decode cX3_ofTank 1 = .ok (.iload_n 1, 1) := by decide +kernel
theorem dX3_ofTank_2 : decode cX3_ofTank 2 = .ok (.invokevirtual 83, 3) := by decide +kernel
theorem dX3_ofTank_5 : decode cX3_ofTank 5 = .ok (.ifCond .ne 5, 3) := by decide +kernel
theorem dX3_ofTank_8 : decode cX3_ofTank 8 = .ok (.iconst (-1), 1) := by decide +kernel
theorem dX3_ofTank_9 : decode cX3_ofTank 9 = .ok (.ireturn, 1) := by decide +kernel
theorem dX3_ofTank_10 : decode cX3_ofTank 10 = .ok (.aload_n 0, 1) := by decide +kernel
theorem dX3_ofTank_11 : decode cX3_ofTank 11 = .ok (.getfield 11, 3) := by decide +kernel
theorem dX3_ofTank_14 : decode cX3_ofTank 14 = .ok (.iload_n 1, 1) := by decide +kernel
theorem dX3_ofTank_15 : decode cX3_ofTank 15 = .ok (.aaload, 1) := by decide +kernel
theorem dX3_ofTank_16 : decode cX3_ofTank 16 = .ok (.astore_n 3, 1) := by decide +kernel
theorem dX3_ofTank_17 : decode cX3_ofTank 17 = .ok (.iload_n 2, 1) := by decide +kernel
theorem dX3_ofTank_18 : decode cX3_ofTank 18 = .ok (.tableswitch 104 0 8 #[50, 55, 60, 68, 73, 80, 87, 94, 99], 50) := by decide +kernel
theorem dX3_ofTank_68 : decode cX3_ofTank 68 = .ok (.aload_n 3, 1) := by decide +kernel
theorem dX3_ofTank_69 : decode cX3_ofTank 69 = .ok (.getfield 64, 3) := by decide +kernel
theorem dX3_ofTank_72 : decode cX3_ofTank 72 = .ok (.ireturn, 1) := by decide +kernel
theorem dX3_ofTank_73 : decode cX3_ofTank 73 = .ok (.aload_n 3, 1) := by decide +kernel
theorem dX3_ofTank_74 : decode cX3_ofTank 74 = .ok (.getfield 67, 3) := by decide +kernel
theorem dX3_ofTank_77 : decode cX3_ofTank 77 = .ok (.ireturn, 1) := by decide +kernel
theorem dX3_ofTank_78 : decode cX3_ofTank 78 = .ok (.aload_n 3, 1) := by decide +kernel
theorem dX3_ofTank_79 : decode cX3_ofTank 79 = .ok (.getfield 70, 3) := by decide +kernel
theorem dX3_ofTank_82 : decode cX3_ofTank 82 = .ok (.bipush 10, 2) := by decide +kernel
theorem dX3_ofTank_84 : decode cX3_ofTank 84 = .ok (.iadd, 1) := by decide +kernel
theorem dX3_ofTank_85 : decode cX3_ofTank 85 = .ok (.ireturn, 1) := by decide +kernel
theorem dX3_ofTank_86 : decode cX3_ofTank 86 = .ok (.aload_n 3, 1) := by decide +kernel
theorem dX3_ofTank_87 : decode cX3_ofTank 87 = .ok (.getfield 77, 3) := by decide +kernel
theorem dX3_ofTank_90 : decode cX3_ofTank 90 = .ok (.ireturn, 1) := by decide +kernel
theorem dX3_ofTank_91 : decode cX3_ofTank 91 = .ok (.aload_n 3, 1) := by decide +kernel
theorem dX3_ofTank_92 : decode cX3_ofTank 92 = .ok (.getfield 90, 3) := by decide +kernel
theorem dX3_ofTank_95 : decode cX3_ofTank 95 = .ok (.iconst 0, 1) := by decide +kernel
theorem dX3_ofTank_96 : decode cX3_ofTank 96 = .ok (.iaload, 1) := by decide +kernel
theorem dX3_ofTank_97 : decode cX3_ofTank 97 = .ok (.ireturn, 1) := by decide +kernel
theorem dX3_ofTank_98 : decode cX3_ofTank 98 = .ok (.aload_n 3, 1) := by decide +kernel
theorem dX3_ofTank_99 : decode cX3_ofTank 99 = .ok (.getfield 90, 3) := by decide +kernel
theorem dX3_ofTank_102 : decode cX3_ofTank 102 = .ok (.iconst 1, 1) := by decide +kernel
theorem dX3_ofTank_103 : decode cX3_ofTank 103 = .ok (.iaload, 1) := by decide +kernel
theorem dX3_ofTank_104 : decode cX3_ofTank 104 = .ok (.ireturn, 1) := by decide +kernel
theorem dX3_ofTank_105 : decode cX3_ofTank 105 = .ok (.aload_n 3, 1) := by decide +kernel
theorem dX3_ofTank_106 : decode cX3_ofTank 106 = .ok (.getfield 90, 3) := by decide +kernel
theorem dX3_ofTank_109 : decode cX3_ofTank 109 = .ok (.iconst 2, 1) := by decide +kernel
theorem dX3_ofTank_110 : decode cX3_ofTank 110 = .ok (.iaload, 1) := by decide +kernel
theorem dX3_ofTank_111 : decode cX3_ofTank 111 = .ok (.ireturn, 1) := by decide +kernel
theorem dX3_ofTank_112 : decode cX3_ofTank 112 = .ok (.aload_n 3, 1) := by decide +kernel
theorem dX3_ofTank_113 : decode cX3_ofTank 113 = .ok (.getfield 124, 3) := by decide +kernel
theorem dX3_ofTank_116 : decode cX3_ofTank 116 = .ok (.ireturn, 1) := by decide +kernel
theorem dX3_ofTank_117 : decode cX3_ofTank 117 = .ok (.aload_n 3, 1) := by decide +kernel
theorem dX3_ofTank_118 : decode cX3_ofTank 118 = .ok (.getfield 127, 3) := by decide +kernel
theorem dX3_ofTank_121 : decode cX3_ofTank 121 = .ok (.ireturn, 1) := by decide +kernel
theorem dX3_ofTank_122 : decode cX3_ofTank 122 = .ok (.bipush (-2), 2) := by decide +kernel
theorem dX3_ofTank_124 : decode cX3_ofTank 124 = .ok (.ireturn, 1) := by decide +kernel
theorem dX3_ofCargo_0 : decode cX3_ofCargo 0 = .ok (.aload_n 0, 1) := by decide +kernel
theorem dX3_ofCargo_1 : decode cX3_ofCargo 1 = .ok (.iload_n 1, 1) := by decide +kernel
theorem dX3_ofCargo_2 : decode cX3_ofCargo 2 = .ok (.invokevirtual 121, 3) := by decide +kernel
theorem dX3_ofCargo_5 : decode cX3_ofCargo 5 = .ok (.ifCond .ne 5, 3) := by decide +kernel
theorem dX3_ofCargo_8 : decode cX3_ofCargo 8 = .ok (.iconst (-1), 1) := by decide +kernel
theorem dX3_ofCargo_9 : decode cX3_ofCargo 9 = .ok (.ireturn, 1) := by decide +kernel
theorem dX3_ofCargo_10 : decode cX3_ofCargo 10 = .ok (.aload_n 0, 1) := by decide +kernel
theorem dX3_ofCargo_11 : decode cX3_ofCargo 11 = .ok (.getfield 17, 3) := by decide +kernel
theorem dX3_ofCargo_14 : decode cX3_ofCargo 14 = .ok (.iload_n 1, 1) := by decide +kernel
theorem dX3_ofCargo_15 : decode cX3_ofCargo 15 = .ok (.aaload, 1) := by decide +kernel
theorem dX3_ofCargo_16 : decode cX3_ofCargo 16 = .ok (.astore_n 3, 1) := by decide +kernel
theorem dX3_ofCargo_17 : decode cX3_ofCargo 17 = .ok (.iload_n 2, 1) := by decide +kernel
theorem dX3_ofCargo_18 : decode cX3_ofCargo 18 = .ok (.tableswitch 88 0 7 #[46, 51, 56, 61, 66, 71, 76, 82], 46) := by decide +kernel
theorem dX3_ofCargo_64 : decode cX3_ofCargo 64 = .ok (.aload_n 3, 1) := by decide +kernel
theorem dX3_ofCargo_65 : decode cX3_ofCargo 65 = .ok (.getfield 99, 3) := by decide +kernel
theorem dX3_ofCargo_68 : decode cX3_ofCargo 68 = .ok (.ireturn, 1) := by decide +kernel
theorem dX3_ofCargo_69 : decode cX3_ofCargo 69 = .ok (.aload_n 3, 1) := by decide +kernel
theorem dX3_ofCargo_70 : decode cX3_ofCargo 70 = .ok (.getfield 102, 3) := by decide +kernel
theorem dX3_ofCargo_73 : decode cX3_ofCargo 73 = .ok (.ireturn, 1) := by decide +kernel
theorem dX3_ofCargo_74 : decode cX3_ofCargo 74 = .ok (.aload_n 3, 1) := by decide +kernel
theorem dX3_ofCargo_75 : decode cX3_ofCargo 75 = .ok (.getfield 105, 3) := by decide +kernel
theorem dX3_ofCargo_78 : decode cX3_ofCargo 78 = .ok (.ireturn, 1) := by decide +kernel
theorem dX3_ofCargo_79 : decode cX3_ofCargo 79 = .ok (.aload_n 3, 1) := by decide +kernel
theorem dX3_ofCargo_80 : decode cX3_ofCargo 80 = .ok (.getfield 108, 3) := by decide +kernel
theorem dX3_ofCargo_83 : decode cX3_ofCargo 83 = .ok (.ireturn, 1) := by decide +kernel
theorem dX3_ofCargo_84 : decode cX3_ofCargo 84 = .ok (.aload_n 3, 1) := by decide +kernel
theorem dX3_ofCargo_85 : decode cX3_ofCargo 85 = .ok (.getfield 111, 3) := by decide +kernel
theorem dX3_ofCargo_88 : decode cX3_ofCargo 88 = .ok (.ireturn, 1) := by decide +kernel
theorem dX3_ofCargo_89 : decode cX3_ofCargo 89 = .ok (.aload_n 3, 1) := by decide +kernel
theorem dX3_ofCargo_90 : decode cX3_ofCargo 90 = .ok (.getfield 114, 3) := by decide +kernel
theorem dX3_ofCargo_93 : decode cX3_ofCargo 93 = .ok (.ireturn, 1) := by decide +kernel
theorem dX3_ofCargo_94 : decode cX3_ofCargo 94 = .ok (.aload_n 0, 1) := by decide +kernel
theorem dX3_ofCargo_95 : decode cX3_ofCargo 95 = .ok (.aload_n 3, 1) := by decide +kernel
theorem dX3_ofCargo_96 : decode cX3_ofCargo 96 = .ok (.invokevirtual 130, 3) := by decide +kernel
theorem dX3_ofCargo_99 : decode cX3_ofCargo 99 = .ok (.ireturn, 1) := by decide +kernel
theorem dX3_ofCargo_100 : decode cX3_ofCargo 100 = .ok (.aload_n 0, 1) := by decide +kernel
theorem dX3_ofCargo_101 : decode cX3_ofCargo 101 = .ok (.aload_n 3, 1) := by decide +kernel
theorem dX3_ofCargo_102 : decode cX3_ofCargo 102 = .ok (.invokevirtual 134, 3) := by decide +kernel
theorem dX3_ofCargo_105 : decode cX3_ofCargo 105 = .ok (.ireturn, 1) := by decide +kernel
theorem dX3_ofCargo_106 : decode cX3_ofCargo 106 = .ok (.bipush (-2), 2) := by decide +kernel
theorem dX3_ofCargo_108 : decode cX3_ofCargo 108 = .ok (.ireturn, 1) := by decide +kernel
theorem dX3_needs_0 : decode cX3_needs 0 = .ok (.aload_n 0, 1) := by decide +kernel
theorem dX3_needs_1 : decode cX3_needs 1 = .ok (.iload_n 1, 1) := by decide +kernel
theorem dX3_needs_2 : decode cX3_needs 2 = .ok (.invokevirtual 83, 3) := by decide +kernel
theorem dX3_needs_5 : decode cX3_needs 5 = .ok (.ifCond .eq 11, 3) := by decide +kernel
theorem dX3_needs_8 : decode cX3_needs 8 = .ok (.aload_n 0, 1) := by decide +kernel
theorem dX3_needs_9 : decode cX3_needs 9 = .ok (.iload_n 2, 1) := by decide +kernel
theorem dX3_needs_10 : decode cX3_needs 10 = .ok (.invokevirtual 121, 3) := by decide +kernel
theorem dX3_needs_13 : decode cX3_needs 13 = .ok (.ifCond .ne 5, 3) := by decide +kernel
theorem dX3_needs_16 : decode cX3_needs 16 = .ok (.iconst (-1), 1) := by decide +kernel
theorem dX3_needs_17 : decode cX3_needs 17 = .ok (.ireturn, 1) := by decide +kernel
theorem dX3_needs_18 : decode cX3_needs 18 = .ok (.aload_n 0, 1) := by decide +kernel
theorem dX3_needs_19 : decode cX3_needs 19 = .ok (.aload_n 0, 1) := by decide +kernel
theorem dX3_needs_20 : decode cX3_needs 20 = .ok (.getfield 11, 3) := by decide +kernel
theorem dX3_needs_23 : decode cX3_needs 23 = .ok (.iload_n 1, 1) := by decide +kernel
theorem dX3_needs_24 : decode cX3_needs 24 = .ok (.aaload, 1) := by decide +kernel
theorem dX3_needs_25 : decode cX3_needs 25 = .ok (.aload_n 0, 1) := by decide +kernel
theorem dX3_needs_26 : decode cX3_needs 26 = .ok (.getfield 17, 3) := by decide +kernel
theorem dX3_needs_29 : decode cX3_needs 29 = .ok (.iload_n 2, 1) := by decide +kernel
theorem dX3_needs_30 : decode cX3_needs 30 = .ok (.aaload, 1) := by decide +kernel
theorem dX3_needs_31 : decode cX3_needs 31 = .ok (.invokevirtual 137, 3) := by decide +kernel
theorem dX3_needs_34 : decode cX3_needs 34 = .ok (.ireturn, 1) := by decide +kernel
theorem dX3_why_0 : decode cX3_why 0 = .ok (.aload_n 0, 1) := by decide +kernel
theorem dX3_why_1 : decode cX3_why 1 = .ok (.iload_n 1, 1) := by decide +kernel
theorem dX3_why_2 : decode cX3_why 2 = .ok (.invokevirtual 83, 3) := by decide +kernel
theorem dX3_why_5 : decode cX3_why 5 = .ok (.ifCond .eq 11, 3) := by decide +kernel
theorem dX3_why_8 : decode cX3_why 8 = .ok (.aload_n 0, 1) := by decide +kernel
theorem dX3_why_9 : decode cX3_why 9 = .ok (.iload_n 2, 1) := by decide +kernel
theorem dX3_why_10 : decode cX3_why 10 = .ok (.invokevirtual 121, 3) := by decide +kernel
theorem dX3_why_13 : decode cX3_why 13 = .ok (.ifCond .ne 5, 3) := by decide +kernel
theorem dX3_why_16 : decode cX3_why 16 = .ok (.iconst (-1), 1) := by decide +kernel
theorem dX3_why_17 : decode cX3_why 17 = .ok (.ireturn, 1) := by decide +kernel
theorem dX3_why_18 : decode cX3_why 18 = .ok (.aload_n 0, 1) := by decide +kernel
theorem dX3_why_19 : decode cX3_why 19 = .ok (.aload_n 0, 1) := by decide +kernel
theorem dX3_why_20 : decode cX3_why 20 = .ok (.getfield 11, 3) := by decide +kernel
theorem dX3_why_23 : decode cX3_why 23 = .ok (.iload_n 1, 1) := by decide +kernel
theorem dX3_why_24 : decode cX3_why 24 = .ok (.aaload, 1) := by decide +kernel
theorem dX3_why_25 : decode cX3_why 25 = .ok (.aload_n 0, 1) := by decide +kernel
theorem dX3_why_26 : decode cX3_why 26 = .ok (.getfield 17, 3) := by decide +kernel
theorem dX3_why_29 : decode cX3_why 29 = .ok (.iload_n 2, 1) := by decide +kernel
theorem dX3_why_30 : decode cX3_why 30 = .ok (.aaload, 1) := by decide +kernel
theorem dX3_why_31 : decode cX3_why 31 = .ok (.invokevirtual 141, 3) := by decide +kernel
theorem dX3_why_34 : decode cX3_why 34 = .ok (.ireturn, 1) := by decide +kernel
theorem dX3_plan_0 : decode cX3_plan 0 = .ok (.aload_n 0, 1) := by decide +kernel
theorem dX3_plan_1 : decode cX3_plan 1 = .ok (.iload_n 1, 1) := by decide +kernel
theorem dX3_plan_2 : decode cX3_plan 2 = .ok (.invokevirtual 83, 3) := by decide +kernel
theorem dX3_plan_5 : decode cX3_plan 5 = .ok (.ifCond .eq 17, 3) := by decide +kernel
theorem dX3_plan_8 : decode cX3_plan 8 = .ok (.iload_n 2, 1) := by decide +kernel
theorem dX3_plan_9 : decode cX3_plan 9 = .ok (.bipush (-9), 2) := by decide +kernel
theorem dX3_plan_11 : decode cX3_plan 11 = .ok (.if_icmp .eq 13, 3) := by decide +kernel
theorem dX3_plan_14 : decode cX3_plan 14 = .ok (.aload_n 0, 1) := by decide +kernel
theorem dX3_plan_15 : decode cX3_plan 15 = .ok (.iload_n 2, 1) := by decide +kernel
theorem dX3_plan_16 : decode cX3_plan 16 = .ok (.invokevirtual 121, 3) := by decide +kernel
theorem dX3_plan_19 : decode cX3_plan 19 = .ok (.ifCond .ne 5, 3) := by decide +kernel
theorem dX3_plan_22 : decode cX3_plan 22 = .ok (.iconst (-1), 1) := by decide +kernel
theorem dX3_plan_23 : decode cX3_plan 23 = .ok (.ireturn, 1) := by decide +kernel
theorem dX3_plan_24 : decode cX3_plan 24 = .ok (.aload_n 0, 1) := by decide +kernel
theorem dX3_plan_25 : decode cX3_plan 25 = .ok (.getfield 32, 3) := by decide +kernel
theorem dX3_plan_28 : decode cX3_plan 28 = .ok (.iload_n 1, 1) := by decide +kernel
theorem dX3_plan_29 : decode cX3_plan 29 = .ok (.iaload, 1) := by decide +kernel
theorem dX3_plan_30 : decode cX3_plan 30 = .ok (.istore_n 3, 1) := by decide +kernel
theorem dX3_plan_31 : decode cX3_plan 31 = .ok (.aload_n 0, 1) := by decide +kernel
theorem dX3_plan_32 : decode cX3_plan 32 = .ok (.getfield 32, 3) := by decide +kernel
theorem dX3_plan_35 : decode cX3_plan 35 = .ok (.iload_n 1, 1) := by decide +kernel
theorem dX3_plan_36 : decode cX3_plan 36 = .ok (.iload_n 2, 1) := by decide +kernel
theorem dX3_plan_37 : decode cX3_plan 37 = .ok (.iastore, 1) := by decide +kernel
theorem dX3_plan_38 : decode cX3_plan 38 = .ok (.iload_n 3, 1) := by decide +kernel
theorem dX3_plan_39 : decode cX3_plan 39 = .ok (.ireturn, 1) := by decide +kernel
theorem dX3_broken_0 : decode cX3_broken 0 = .ok (.aload_n 0, 1) := by decide +kernel
theorem dX3_broken_1 : decode cX3_broken 1 = .ok (.iload_n 1, 1) := by decide +kernel
theorem dX3_broken_2 : decode cX3_broken 2 = .ok (.invokevirtual 144, 3) := by decide +kernel
theorem dX3_broken_5 : decode cX3_broken 5 = .ok (.ifCond .ne 6, 3) := by decide +kernel
theorem dX3_broken_8 : decode cX3_broken 8 = .ok (.bipush (-2), 2) := by decide +kernel
theorem dX3_broken_10 : decode cX3_broken 10 = .ok (.ireturn, 1) := by decide +kernel
theorem dX3_broken_11 : decode cX3_broken 11 = .ok (.aload_n 0, 1) := by decide +kernel
theorem dX3_broken_12 : decode cX3_broken 12 = .ok (.iload_n 1, 1) := by decide +kernel
theorem dX3_broken_13 : decode cX3_broken 13 = .ok (.invokevirtual 147, 3) := by decide +kernel
theorem dX3_broken_16 : decode cX3_broken 16 = .ok (.ifCond .eq 5, 3) := by decide +kernel
theorem dX3_broken_19 : decode cX3_broken 19 = .ok (.iconst 1, 1) := by decide +kernel
theorem dX3_broken_20 : decode cX3_broken 20 = .ok (.ireturn, 1) := by decide +kernel
theorem dX3_broken_21 : decode cX3_broken 21 = .ok (.aload_n 0, 1) := by decide +kernel
theorem dX3_broken_22 : decode cX3_broken 22 = .ok (.invokevirtual 150, 3) := by decide +kernel
theorem dX3_broken_25 : decode cX3_broken 25 = .ok (.ifCond .eq 5, 3) := by decide +kernel
theorem dX3_broken_28 : decode cX3_broken 28 = .ok (.iconst 2, 1) := by decide +kernel
theorem dX3_broken_29 : decode cX3_broken 29 = .ok (.ireturn, 1) := by decide +kernel
theorem dX3_broken_30 : decode cX3_broken 30 = .ok (.aload_n 0, 1) := by decide +kernel
theorem dX3_broken_31 : decode cX3_broken 31 = .ok (.invokevirtual 154, 3) := by decide +kernel
theorem dX3_broken_34 : decode cX3_broken 34 = .ok (.ifCond .eq 5, 3) := by decide +kernel
theorem dX3_broken_37 : decode cX3_broken 37 = .ok (.iconst 3, 1) := by decide +kernel
theorem dX3_broken_38 : decode cX3_broken 38 = .ok (.ireturn, 1) := by decide +kernel
theorem dX3_broken_39 : decode cX3_broken 39 = .ok (.aload_n 0, 1) := by decide +kernel
theorem dX3_broken_40 : decode cX3_broken 40 = .ok (.invokevirtual 157, 3) := by decide +kernel
theorem dX3_broken_43 : decode cX3_broken 43 = .ok (.aload_n 0, 1) := by decide +kernel
theorem dX3_broken_44 : decode cX3_broken 44 = .ok (.iload_n 1, 1) := by decide +kernel
theorem dX3_broken_45 : decode cX3_broken 45 = .ok (.invokevirtual 160, 3) := by decide +kernel
theorem dX3_broken_48 : decode cX3_broken 48 = .ok (.ifCond .eq 5, 3) := by decide +kernel
theorem dX3_broken_51 : decode cX3_broken 51 = .ok (.iconst 4, 1) := by decide +kernel
theorem dX3_broken_52 : decode cX3_broken 52 = .ok (.ireturn, 1) := by decide +kernel
theorem dX3_broken_53 : decode cX3_broken 53 = .ok (.aload_n 0, 1) := by decide +kernel
theorem dX3_broken_54 : decode cX3_broken 54 = .ok (.invokevirtual 163, 3) := by decide +kernel
theorem dX3_broken_57 : decode cX3_broken 57 = .ok (.ifCond .eq 5, 3) := by decide +kernel
theorem dX3_broken_60 : decode cX3_broken 60 = .ok (.iconst 5, 1) := by decide +kernel
theorem dX3_broken_61 : decode cX3_broken 61 = .ok (.ireturn, 1) := by decide +kernel
theorem dX3_broken_62 : decode cX3_broken 62 = .ok (.aload_n 0, 1) := by decide +kernel
theorem dX3_broken_63 : decode cX3_broken 63 = .ok (.invokevirtual 166, 3) := by decide +kernel
theorem dX3_broken_66 : decode cX3_broken 66 = .ok (.invokestatic 170, 3) := by decide +kernel
theorem dX3_broken_69 : decode cX3_broken 69 = .ok (.aload_n 0, 1) := by decide +kernel
theorem dX3_broken_70 : decode cX3_broken 70 = .ok (.getfield 48, 3) := by decide +kernel
theorem dX3_broken_73 : decode cX3_broken 73 = .ok (.if_icmp .le 8, 3) := by decide +kernel
theorem dX3_broken_76 : decode cX3_broken 76 = .ok (.bipush 6, 2) := by decide +kernel
theorem dX3_broken_78 : decode cX3_broken 78 = .ok (.goto 4, 3) := by decide +kernel
theorem dX3_broken_81 : decode cX3_broken 81 = .ok (.iconst 0, 1) := by decide +kernel
theorem dX3_broken_82 : decode cX3_broken 82 = .ok (.ireturn, 1) := by decide +kernel
theorem dX3_ofPlan_0 : decode cX3_ofPlan 0 = .ok (.iload_n 1, 1) := by decide +kernel
theorem dX3_ofPlan_1 : decode cX3_ofPlan 1 = .ok (.tableswitch 49 0 2 #[27, 32, 37], 27) := by decide +kernel
theorem dX3_ofPlan_28 : decode cX3_ofPlan 28 = .ok (.aload_n 0, 1) := by decide +kernel
theorem dX3_ofPlan_29 : decode cX3_ofPlan 29 = .ok (.invokevirtual 175, 3) := by decide +kernel
theorem dX3_ofPlan_32 : decode cX3_ofPlan 32 = .ok (.ireturn, 1) := by decide +kernel
theorem dX3_ofPlan_33 : decode cX3_ofPlan 33 = .ok (.aload_n 0, 1) := by decide +kernel
theorem dX3_ofPlan_34 : decode cX3_ofPlan 34 = .ok (.invokevirtual 178, 3) := by decide +kernel
theorem dX3_ofPlan_37 : decode cX3_ofPlan 37 = .ok (.ireturn, 1) := by decide +kernel
theorem dX3_ofPlan_38 : decode cX3_ofPlan 38 = .ok (.aload_n 0, 1) := by decide +kernel
theorem dX3_ofPlan_39 : decode cX3_ofPlan 39 = .ok (.invokevirtual 157, 3) := by decide +kernel
theorem dX3_ofPlan_42 : decode cX3_ofPlan 42 = .ok (.aload_n 0, 1) := by decide +kernel
theorem dX3_ofPlan_43 : decode cX3_ofPlan 43 = .ok (.invokevirtual 166, 3) := by decide +kernel
theorem dX3_ofPlan_46 : decode cX3_ofPlan 46 = .ok (.ldc 181, 2) := by decide +kernel
theorem dX3_ofPlan_48 : decode cX3_ofPlan 48 = .ok (.iadd, 1) := by decide +kernel
theorem dX3_ofPlan_49 : decode cX3_ofPlan 49 = .ok (.ireturn, 1) := by decide +kernel
theorem dX3_ofPlan_50 : decode cX3_ofPlan 50 = .ok (.bipush (-2), 2) := by decide +kernel
theorem dX3_ofPlan_52 : decode cX3_ofPlan 52 = .ok (.ireturn, 1) := by decide +kernel
theorem dX3_best_0 : decode cX3_best 0 = .ok (.aload_n 0, 1) := by decide +kernel
theorem dX3_best_1 : decode cX3_best 1 = .ok (.iload_n 2, 1) := by decide +kernel
theorem dX3_best_2 : decode cX3_best 2 = .ok (.bipush 10, 2) := by decide +kernel
theorem dX3_best_4 : decode cX3_best 4 = .ok (.isub, 1) := by decide +kernel
theorem dX3_best_5 : decode cX3_best 5 = .ok (.invokevirtual 83, 3) := by decide +kernel
theorem dX3_best_8 : decode cX3_best 8 = .ok (.ifCond .ne 14, 3) := by decide +kernel
theorem dX3_best_11 : decode cX3_best 11 = .ok (.aload_n 0, 1) := by decide +kernel
theorem dX3_best_12 : decode cX3_best 12 = .ok (.iload_n 2, 1) := by decide +kernel
theorem dX3_best_13 : decode cX3_best 13 = .ok (.bipush 20, 2) := by decide +kernel
theorem dX3_best_15 : decode cX3_best 15 = .ok (.isub, 1) := by decide +kernel
theorem dX3_best_16 : decode cX3_best 16 = .ok (.invokevirtual 83, 3) := by decide +kernel
theorem dX3_best_19 : decode cX3_best 19 = .ok (.ifCond .eq 7, 3) := by decide +kernel
theorem dX3_best_22 : decode cX3_best 22 = .ok (.iconst 1, 1) := by decide +kernel
theorem dX3_best_23 : decode cX3_best 23 = .ok (.goto 4, 3) := by decide +kernel
theorem dX3_best_26 : decode cX3_best 26 = .ok (.iconst 0, 1) := by decide +kernel
theorem dX3_best_27 : decode cX3_best 27 = .ok (.istore_n 3, 1) := by decide +kernel
theorem dX3_best_28 : decode cX3_best 28 = .ok (.aload_n 0, 1) := by decide +kernel
theorem dX3_best_29 : decode cX3_best 29 = .ok (.iload_n 1, 1) := by decide +kernel
theorem dX3_best_30 : decode cX3_best 30 = .ok (.invokevirtual 144, 3) := by decide +kernel
theorem dX3_best_33 : decode cX3_best 33 = .ok (.ifCond .eq 16, 3) := by decide +kernel
theorem dX3_best_36 : decode cX3_best 36 = .ok (.iload_n 2, 1) := by decide +kernel
theorem dX3_best_37 : decode cX3_best 37 = .ok (.iconst 0, 1) := by decide +kernel
theorem dX3_best_38 : decode cX3_best 38 = .ok (.iconst 3, 1) := by decide +kernel
theorem dX3_best_39 : decode cX3_best 39 = .ok (.invokestatic 60, 3) := by decide +kernel
theorem dX3_best_42 : decode cX3_best 42 = .ok (.ifCond .ne 10, 3) := by decide +kernel
theorem dX3_best_45 : decode cX3_best 45 = .ok (.iload_n 3, 1) := by decide +kernel
theorem dX3_best_46 : decode cX3_best 46 = .ok (.ifCond .ne 6, 3) := by decide +kernel
theorem dX3_best_49 : decode cX3_best 49 = .ok (.bipush (-2), 2) := by decide +kernel
theorem dX3_best_51 : decode cX3_best 51 = .ok (.ireturn, 1) := by decide +kernel
theorem dX3_best_52 : decode cX3_best 52 = .ok (.aload_n 0, 1) := by decide +kernel
theorem dX3_best_53 : decode cX3_best 53 = .ok (.invokevirtual 182, 3) := by decide +kernel
theorem dX3_best_56 : decode cX3_best 56 = .ok (.iload_n 2, 1) := by decide +kernel
theorem dX3_best_57 : decode cX3_best 57 = .ok (.iconst 3, 1) := by decide +kernel
theorem dX3_best_58 : decode cX3_best 58 = .ok (.if_icmp .ne 13, 3) := by decide +kernel
theorem dX3_best_61 : decode cX3_best 61 = .ok (.aload_n 0, 1) := by decide +kernel
theorem dX3_best_62 : decode cX3_best 62 = .ok (.getfield 28, 3) := by decide +kernel
theorem dX3_best_65 : decode cX3_best 65 = .ok (.getfield 185, 3) := by decide +kernel
theorem dX3_best_68 : decode cX3_best 68 = .ok (.iload_n 1, 1) := by decide +kernel
theorem dX3_best_69 : decode cX3_best 69 = .ok (.iaload, 1) := by decide +kernel
theorem dX3_best_70 : decode cX3_best 70 = .ok (.ireturn, 1) := by decide +kernel
theorem dX3_best_71 : decode cX3_best 71 = .ok (.aload_n 0, 1) := by decide +kernel
theorem dX3_best_72 : decode cX3_best 72 = .ok (.getfield 28, 3) := by decide +kernel
theorem dX3_best_75 : decode cX3_best 75 = .ok (.getfield 185, 3) := by decide +kernel
theorem dX3_best_78 : decode cX3_best 78 = .ok (.iload_n 1, 1) := by decide +kernel
theorem dX3_best_79 : decode cX3_best 79 = .ok (.iaload, 1) := by decide +kernel
theorem dX3_best_80 : decode cX3_best 80 = .ok (.ifCond .ne 6, 3) := by decide +kernel
theorem dX3_best_83 : decode cX3_best 83 = .ok (.bipush (-9), 2) := by decide +kernel
theorem dX3_best_85 : decode cX3_best 85 = .ok (.ireturn, 1) := by decide +kernel
theorem dX3_best_86 : decode cX3_best 86 = .ok (.aload_n 0, 1) := by decide +kernel
theorem dX3_best_87 : decode cX3_best 87 = .ok (.iload_n 2, 1) := by decide +kernel
theorem dX3_best_88 : decode cX3_best 88 = .ok (.bipush 20, 2) := by decide +kernel
theorem dX3_best_90 : decode cX3_best 90 = .ok (.isub, 1) := by decide +kernel
theorem dX3_best_91 : decode cX3_best 91 = .ok (.invokevirtual 83, 3) := by decide +kernel
theorem dX3_best_94 : decode cX3_best 94 = .ok (.ifCond .eq 21, 3) := by decide +kernel
theorem dX3_best_97 : decode cX3_best 97 = .ok (.aload_n 0, 1) := by decide +kernel
theorem dX3_best_98 : decode cX3_best 98 = .ok (.getfield 28, 3) := by decide +kernel
theorem dX3_best_101 : decode cX3_best 101 = .ok (.getfield 188, 3) := by decide +kernel
theorem dX3_best_104 : decode cX3_best 104 = .ok (.iload_n 1, 1) := by decide +kernel
theorem dX3_best_105 : decode cX3_best 105 = .ok (.bipush 6, 2) := by decide +kernel
theorem dX3_best_107 : decode cX3_best 107 = .ok (.imul, 1) := by decide +kernel
theorem dX3_best_108 : decode cX3_best 108 = .ok (.iload_n 2, 1) := by decide +kernel
theorem dX3_best_109 : decode cX3_best 109 = .ok (.iadd, 1) := by decide +kernel
theorem dX3_best_110 : decode cX3_best 110 = .ok (.bipush 20, 2) := by decide +kernel
theorem dX3_best_112 : decode cX3_best 112 = .ok (.isub, 1) := by decide +kernel
theorem dX3_best_113 : decode cX3_best 113 = .ok (.iaload, 1) := by decide +kernel
theorem dX3_best_114 : decode cX3_best 114 = .ok (.ireturn, 1) := by decide +kernel
theorem dX3_best_115 : decode cX3_best 115 = .ok (.aload_n 0, 1) := by decide +kernel
theorem dX3_best_116 : decode cX3_best 116 = .ok (.iload_n 2, 1) := by decide +kernel
theorem dX3_best_117 : decode cX3_best 117 = .ok (.bipush 10, 2) := by decide +kernel
theorem dX3_best_119 : decode cX3_best 119 = .ok (.isub, 1) := by decide +kernel
theorem dX3_best_120 : decode cX3_best 120 = .ok (.invokevirtual 83, 3) := by decide +kernel
theorem dX3_best_123 : decode cX3_best 123 = .ok (.ifCond .eq 21, 3) := by decide +kernel
theorem dX3_best_126 : decode cX3_best 126 = .ok (.aload_n 0, 1) := by decide +kernel
theorem dX3_best_127 : decode cX3_best 127 = .ok (.getfield 28, 3) := by decide +kernel
theorem dX3_best_130 : decode cX3_best 130 = .ok (.getfield 191, 3) := by decide +kernel
theorem dX3_best_133 : decode cX3_best 133 = .ok (.iload_n 1, 1) := by decide +kernel
theorem dX3_best_134 : decode cX3_best 134 = .ok (.bipush 6, 2) := by decide +kernel
theorem dX3_best_136 : decode cX3_best 136 = .ok (.imul, 1) := by decide +kernel
theorem dX3_best_137 : decode cX3_best 137 = .ok (.iload_n 2, 1) := by decide +kernel
theorem dX3_best_138 : decode cX3_best 138 = .ok (.iadd, 1) := by decide +kernel
theorem dX3_best_139 : decode cX3_best 139 = .ok (.bipush 10, 2) := by decide +kernel
theorem dX3_best_141 : decode cX3_best 141 = .ok (.isub, 1) := by decide +kernel
theorem dX3_best_142 : decode cX3_best 142 = .ok (.iaload, 1) := by decide +kernel
theorem dX3_best_143 : decode cX3_best 143 = .ok (.ireturn, 1) := by decide +kernel
theorem dX3_best_144 : decode cX3_best 144 = .ok (.iload_n 2, 1) := by decide +kernel
theorem dX3_best_145 : decode cX3_best 145 = .ok (.lookupswitch 47 #[(0, 27), (1, 37)], 27) := by decide +kernel
theorem dX3_best_172 : decode cX3_best 172 = .ok (.aload_n 0, 1) := by decide +kernel
theorem dX3_best_173 : decode cX3_best 173 = .ok (.getfield 28, 3) := by decide +kernel
theorem dX3_best_176 : decode cX3_best 176 = .ok (.getfield 194, 3) := by decide +kernel
theorem dX3_best_179 : decode cX3_best 179 = .ok (.iload_n 1, 1) := by decide +kernel
theorem dX3_best_180 : decode cX3_best 180 = .ok (.iaload, 1) := by decide +kernel
theorem dX3_best_181 : decode cX3_best 181 = .ok (.ireturn, 1) := by decide +kernel
theorem dX3_best_182 : decode cX3_best 182 = .ok (.aload_n 0, 1) := by decide +kernel
theorem dX3_best_183 : decode cX3_best 183 = .ok (.getfield 28, 3) := by decide +kernel
theorem dX3_best_186 : decode cX3_best 186 = .ok (.getfield 197, 3) := by decide +kernel
theorem dX3_best_189 : decode cX3_best 189 = .ok (.iload_n 1, 1) := by decide +kernel
theorem dX3_best_190 : decode cX3_best 190 = .ok (.iaload, 1) := by decide +kernel
theorem dX3_best_191 : decode cX3_best 191 = .ok (.ireturn, 1) := by decide +kernel
theorem dX3_best_192 : decode cX3_best 192 = .ok (.aload_n 0, 1) := by decide +kernel
theorem dX3_best_193 : decode cX3_best 193 = .ok (.getfield 28, 3) := by decide +kernel
theorem dX3_best_196 : decode cX3_best 196 = .ok (.getfield 200, 3) := by decide +kernel
theorem dX3_best_199 : decode cX3_best 199 = .ok (.iload_n 1, 1) := by decide +kernel
theorem dX3_best_200 : decode cX3_best 200 = .ok (.iaload, 1) := by decide +kernel
theorem dX3_best_201 : decode cX3_best 201 = .ok (.ldc 181, 2) := by decide +kernel
theorem dX3_best_203 : decode cX3_best 203 = .ok (.iadd, 1) := by decide +kernel
theorem dX3_best_204 : decode cX3_best 204 = .ok (.ireturn, 1) := by decide +kernel
theorem dX3_taken_0 : decode cX3_taken 0 = .ok (.aload_n 0, 1) := by decide +kernel
theorem dX3_taken_1 : decode cX3_taken 1 = .ok (.invokevirtual 203, 3) := by decide +kernel
theorem dX3_taken_4 : decode cX3_taken 4 = .ok (.ireturn, 1) := by decide +kernel
theorem dX3_load_0 : decode cX3_load 0 = .ok (.aload_n 0, 1) := by decide +kernel
theorem dX3_load_1 : decode cX3_load 1 = .ok (.invokevirtual 206, 3) := by decide +kernel
theorem dX3_load_4 : decode cX3_load 4 = .ok (.ifCond .le 6, 3) := by decide +kernel
theorem dX3_load_7 : decode cX3_load 7 = .ok (.bipush (-3), 2) := by decide +kernel
theorem dX3_load_9 : decode cX3_load 9 = .ok (.ireturn, 1) := by decide +kernel
theorem dX3_load_10 : decode cX3_load 10 = .ok (.aload_n 0, 1) := by decide +kernel
theorem dX3_load_11 : decode cX3_load 11 = .ok (.invokevirtual 203, 3) := by decide +kernel
theorem dX3_load_14 : decode cX3_load 14 = .ok (.istore_n 1, 1) := by decide +kernel
theorem dX3_load_15 : decode cX3_load 15 = .ok (.iload_n 1, 1) := by decide +kernel
theorem dX3_load_16 : decode cX3_load 16 = .ok (.ifCond .ne 6, 3) := by decide +kernel
theorem dX3_load_19 : decode cX3_load 19 = .ok (.bipush (-3), 2) := by decide +kernel
theorem dX3_load_21 : decode cX3_load 21 = .ok (.ireturn, 1) := by decide +kernel
theorem dX3_load_22 : decode cX3_load 22 = .ok (.iconst 0, 1) := by decide +kernel
theorem dX3_load_23 : decode cX3_load 23 = .ok (.istore_n 2, 1) := by decide +kernel
theorem dX3_load_24 : decode cX3_load 24 = .ok (.iload_n 2, 1) := by decide +kernel
theorem dX3_load_25 : decode cX3_load 25 = .ok (.aload_n 0, 1) := by decide +kernel
theorem dX3_load_26 : decode cX3_load 26 = .ok (.getfield 41, 3) := by decide +kernel
theorem dX3_load_29 : decode cX3_load 29 = .ok (.if_icmp .ge 55, 3) := by decide +kernel
theorem dX3_load_32 : decode cX3_load 32 = .ok (.aload_n 0, 1) := by decide +kernel
theorem dX3_load_33 : decode cX3_load 33 = .ok (.getfield 11, 3) := by decide +kernel
theorem dX3_load_36 : decode cX3_load 36 = .ok (.iload_n 2, 1) := by decide +kernel
theorem dX3_load_37 : decode cX3_load 37 = .ok (.aaload, 1) := by decide +kernel
theorem dX3_load_38 : decode cX3_load 38 = .ok (.aload_n 0, 1) := by decide +kernel
theorem dX3_load_39 : decode cX3_load 39 = .ok (.getfield 28, 3) := by decide +kernel
theorem dX3_load_42 : decode cX3_load 42 = .ok (.getfield 191, 3) := by decide +kernel
theorem dX3_load_45 : decode cX3_load 45 = .ok (.iload_n 1, 1) := by decide +kernel
theorem dX3_load_46 : decode cX3_load 46 = .ok (.bipush 6, 2) := by decide +kernel
theorem dX3_load_48 : decode cX3_load 48 = .ok (.imul, 1) := by decide +kernel
theorem dX3_load_49 : decode cX3_load 49 = .ok (.iload_n 2, 1) := by decide +kernel
theorem dX3_load_50 : decode cX3_load 50 = .ok (.iadd, 1) := by decide +kernel
theorem dX3_load_51 : decode cX3_load 51 = .ok (.iaload, 1) := by decide +kernel
theorem dX3_load_52 : decode cX3_load 52 = .ok (.putfield 124, 3) := by decide +kernel
theorem dX3_load_55 : decode cX3_load 55 = .ok (.aload_n 0, 1) := by decide +kernel
theorem dX3_load_56 : decode cX3_load 56 = .ok (.getfield 11, 3) := by decide +kernel
theorem dX3_load_59 : decode cX3_load 59 = .ok (.iload_n 2, 1) := by decide +kernel
theorem dX3_load_60 : decode cX3_load 60 = .ok (.aaload, 1) := by decide +kernel
theorem dX3_load_61 : decode cX3_load 61 = .ok (.aload_n 0, 1) := by decide +kernel
theorem dX3_load_62 : decode cX3_load 62 = .ok (.getfield 28, 3) := by decide +kernel
theorem dX3_load_65 : decode cX3_load 65 = .ok (.getfield 188, 3) := by decide +kernel
theorem dX3_load_68 : decode cX3_load 68 = .ok (.iload_n 1, 1) := by decide +kernel
theorem dX3_load_69 : decode cX3_load 69 = .ok (.bipush 6, 2) := by decide +kernel
theorem dX3_load_71 : decode cX3_load 71 = .ok (.imul, 1) := by decide +kernel
theorem dX3_load_72 : decode cX3_load 72 = .ok (.iload_n 2, 1) := by decide +kernel
theorem dX3_load_73 : decode cX3_load 73 = .ok (.iadd, 1) := by decide +kernel
theorem dX3_load_74 : decode cX3_load 74 = .ok (.iaload, 1) := by decide +kernel
theorem dX3_load_75 : decode cX3_load 75 = .ok (.putfield 127, 3) := by decide +kernel
theorem dX3_load_78 : decode cX3_load 78 = .ok (.iinc 2 1, 3) := by decide +kernel
theorem dX3_load_81 : decode cX3_load 81 = .ok (.goto (-57), 3) := by decide +kernel
theorem dX3_load_84 : decode cX3_load 84 = .ok (.aload_n 0, 1) := by decide +kernel
theorem dX3_load_85 : decode cX3_load 85 = .ok (.dup, 1) := by decide +kernel
theorem dX3_load_86 : decode cX3_load 86 = .ok (.getfield 51, 3) := by decide +kernel
theorem dX3_load_89 : decode cX3_load 89 = .ok (.aload_n 0, 1) := by decide +kernel
theorem dX3_load_90 : decode cX3_load 90 = .ok (.getfield 28, 3) := by decide +kernel
theorem dX3_load_93 : decode cX3_load 93 = .ok (.getfield 194, 3) := by decide +kernel
theorem dX3_load_96 : decode cX3_load 96 = .ok (.iload_n 1, 1) := by decide +kernel
theorem dX3_load_97 : decode cX3_load 97 = .ok (.iaload, 1) := by decide +kernel
theorem dX3_load_98 : decode cX3_load 98 = .ok (.iadd, 1) := by decide +kernel
theorem dX3_load_99 : decode cX3_load 99 = .ok (.putfield 51, 3) := by decide +kernel
theorem dX3_load_102 : decode cX3_load 102 = .ok (.aload_n 0, 1) := by decide +kernel
theorem dX3_load_103 : decode cX3_load 103 = .ok (.getfield 28, 3) := by decide +kernel
theorem dX3_load_106 : decode cX3_load 106 = .ok (.getfield 194, 3) := by decide +kernel
theorem dX3_load_109 : decode cX3_load 109 = .ok (.iload_n 1, 1) := by decide +kernel
theorem dX3_load_110 : decode cX3_load 110 = .ok (.iaload, 1) := by decide +kernel
theorem dX3_load_111 : decode cX3_load 111 = .ok (.ireturn, 1) := by decide +kernel
theorem dX3_unload_0 : decode cX3_unload 0 = .ok (.aload_n 0, 1) := by decide +kernel
theorem dX3_unload_1 : decode cX3_unload 1 = .ok (.iload_n 1, 1) := by decide +kernel
theorem dX3_unload_2 : decode cX3_unload 2 = .ok (.invokevirtual 121, 3) := by decide +kernel
theorem dX3_unload_5 : decode cX3_unload 5 = .ok (.ifCond .ne 5, 3) := by decide +kernel
theorem dX3_unload_8 : decode cX3_unload 8 = .ok (.iconst (-1), 1) := by decide +kernel
theorem dX3_unload_9 : decode cX3_unload 9 = .ok (.ireturn, 1) := by decide +kernel
theorem dX3_unload_10 : decode cX3_unload 10 = .ok (.iconst 0, 1) := by decide +kernel
theorem dX3_unload_11 : decode cX3_unload 11 = .ok (.istore_n 2, 1) := by decide +kernel
theorem dX3_unload_12 : decode cX3_unload 12 = .ok (.iconst 0, 1) := by decide +kernel
theorem dX3_unload_13 : decode cX3_unload 13 = .ok (.istore_n 3, 1) := by decide +kernel
theorem dX3_unload_14 : decode cX3_unload 14 = .ok (.iload_n 3, 1) := by decide +kernel
theorem dX3_unload_15 : decode cX3_unload 15 = .ok (.aload_n 0, 1) := by decide +kernel
theorem dX3_unload_16 : decode cX3_unload 16 = .ok (.getfield 41, 3) := by decide +kernel
theorem dX3_unload_19 : decode cX3_unload 19 = .ok (.if_icmp .ge 43, 3) := by decide +kernel
theorem dX3_unload_22 : decode cX3_unload 22 = .ok (.aload_n 0, 1) := by decide +kernel
theorem dX3_unload_23 : decode cX3_unload 23 = .ok (.getfield 11, 3) := by decide +kernel
theorem dX3_unload_26 : decode cX3_unload 26 = .ok (.iload_n 3, 1) := by decide +kernel
theorem dX3_unload_27 : decode cX3_unload 27 = .ok (.aaload, 1) := by decide +kernel
theorem dX3_unload_28 : decode cX3_unload 28 = .ok (.getfield 124, 3) := by decide +kernel
theorem dX3_unload_31 : decode cX3_unload 31 = .ok (.iload_n 1, 1) := by decide +kernel
theorem dX3_unload_32 : decode cX3_unload 32 = .ok (.if_icmp .ne 24, 3) := by decide +kernel
theorem dX3_unload_35 : decode cX3_unload 35 = .ok (.aload_n 0, 1) := by decide +kernel
theorem dX3_unload_36 : decode cX3_unload 36 = .ok (.getfield 11, 3) := by decide +kernel
theorem dX3_unload_39 : decode cX3_unload 39 = .ok (.iload_n 3, 1) := by decide +kernel
theorem dX3_unload_40 : decode cX3_unload 40 = .ok (.aaload, 1) := by decide +kernel
theorem dX3_unload_41 : decode cX3_unload 41 = .ok (.aload_n 0, 1) := by decide +kernel
theorem dX3_unload_42 : decode cX3_unload 42 = .ok (.getfield 17, 3) := by decide +kernel
theorem dX3_unload_45 : decode cX3_unload 45 = .ok (.iload_n 1, 1) := by decide +kernel
theorem dX3_unload_46 : decode cX3_unload 46 = .ok (.aaload, 1) := by decide +kernel
theorem dX3_unload_47 : decode cX3_unload 47 = .ok (.getfield 99, 3) := by decide +kernel
theorem dX3_unload_50 : decode cX3_unload 50 = .ok (.invokevirtual 209, 3) := by decide +kernel
theorem dX3_unload_53 : decode cX3_unload 53 = .ok (.iinc 2 1, 3) := by decide +kernel
theorem dX3_unload_56 : decode cX3_unload 56 = .ok (.iinc 3 1, 3) := by decide +kernel
theorem dX3_unload_59 : decode cX3_unload 59 = .ok (.goto (-45), 3) := by decide +kernel
theorem dX3_unload_62 : decode cX3_unload 62 = .ok (.iload_n 2, 1) := by decide +kernel
theorem dX3_unload_63 : decode cX3_unload 63 = .ok (.ifCond .ne 6, 3) := by decide +kernel
theorem dX3_unload_66 : decode cX3_unload 66 = .ok (.bipush (-3), 2) := by decide +kernel
theorem dX3_unload_68 : decode cX3_unload 68 = .ok (.ireturn, 1) := by decide +kernel
theorem dX3_unload_69 : decode cX3_unload 69 = .ok (.aload_n 0, 1) := by decide +kernel
theorem dX3_unload_70 : decode cX3_unload 70 = .ok (.iconst 0, 1) := by decide +kernel
theorem dX3_unload_71 : decode cX3_unload 71 = .ok (.putfield 54, 3) := by decide +kernel
theorem dX3_unload_74 : decode cX3_unload 74 = .ok (.iload_n 2, 1) := by decide +kernel
theorem dX3_unload_75 : decode cX3_unload 75 = .ok (.ireturn, 1) := by decide +kernel
theorem dX3_pour_0 : decode cX3_pour 0 = .ok (.aload_n 0, 1) := by decide +kernel
theorem dX3_pour_1 : decode cX3_pour 1 = .ok (.iload_n 1, 1) := by decide +kernel
theorem dX3_pour_2 : decode cX3_pour 2 = .ok (.iload_n 2, 1) := by decide +kernel
theorem dX3_pour_3 : decode cX3_pour 3 = .ok (.invokevirtual 73, 3) := by decide +kernel
theorem dX3_pour_6 : decode cX3_pour 6 = .ok (.ifCond .ne 5, 3) := by decide +kernel
theorem dX3_pour_9 : decode cX3_pour 9 = .ok (.iconst (-1), 1) := by decide +kernel
theorem dX3_pour_10 : decode cX3_pour 10 = .ok (.ireturn, 1) := by decide +kernel
theorem dX3_pour_11 : decode cX3_pour 11 = .ok (.iload_n 3, 1) := by decide +kernel
theorem dX3_pour_12 : decode cX3_pour 12 = .ok (.iconst 1, 1) := by decide +kernel
theorem dX3_pour_13 : decode cX3_pour 13 = .ok (.bipush 99, 2) := by decide +kernel
theorem dX3_pour_15 : decode cX3_pour 15 = .ok (.invokestatic 60, 3) := by decide +kernel
theorem dX3_pour_18 : decode cX3_pour 18 = .ok (.ifCond .ne 6, 3) := by decide +kernel
theorem dX3_pour_21 : decode cX3_pour 21 = .ok (.bipush (-2), 2) := by decide +kernel
theorem dX3_pour_23 : decode cX3_pour 23 = .ok (.ireturn, 1) := by decide +kernel
theorem dX3_pour_24 : decode cX3_pour 24 = .ok (.aload_n 0, 1) := by decide +kernel
theorem dX3_pour_25 : decode cX3_pour 25 = .ok (.getfield 11, 3) := by decide +kernel
theorem dX3_pour_28 : decode cX3_pour 28 = .ok (.iload_n 1, 1) := by decide +kernel
theorem dX3_pour_29 : decode cX3_pour 29 = .ok (.aaload, 1) := by decide +kernel
theorem dX3_pour_30 : decode cX3_pour 30 = .ok (.astore 4, 2) := by decide +kernel
theorem dX3_pour_32 : decode cX3_pour 32 = .ok (.aload_n 0, 1) := by decide +kernel
theorem dX3_pour_33 : decode cX3_pour 33 = .ok (.getfield 11, 3) := by decide +kernel
theorem dX3_pour_36 : decode cX3_pour 36 = .ok (.iload_n 2, 1) := by decide +kernel
theorem dX3_pour_37 : decode cX3_pour 37 = .ok (.aaload, 1) := by decide +kernel
theorem dX3_pour_38 : decode cX3_pour 38 = .ok (.astore 5, 2) := by decide +kernel
theorem dX3_pour_40 : decode cX3_pour 40 = .ok (.aload 4, 2) := by decide +kernel
theorem dX3_pour_42 : decode cX3_pour 42 = .ok (.getfield 124, 3) := by decide +kernel
theorem dX3_pour_45 : decode cX3_pour 45 = .ok (.istore 6, 2) := by decide +kernel
theorem dX3_pour_47 : decode cX3_pour 47 = .ok (.aload 4, 2) := by decide +kernel
theorem dX3_pour_49 : decode cX3_pour 49 = .ok (.getfield 127, 3) := by decide +kernel
theorem dX3_pour_52 : decode cX3_pour 52 = .ok (.iload_n 3, 1) := by decide +kernel
theorem dX3_pour_53 : decode cX3_pour 53 = .ok (.if_icmp .lt 27, 3) := by decide +kernel
theorem dX3_pour_56 : decode cX3_pour 56 = .ok (.aload 5, 2) := by decide +kernel
theorem dX3_pour_58 : decode cX3_pour 58 = .ok (.getfield 64, 3) := by decide +kernel
theorem dX3_pour_61 : decode cX3_pour 61 = .ok (.aload 5, 2) := by decide +kernel
theorem dX3_pour_63 : decode cX3_pour 63 = .ok (.getfield 127, 3) := by decide +kernel
theorem dX3_pour_66 : decode cX3_pour 66 = .ok (.isub, 1) := by decide +kernel
theorem dX3_pour_67 : decode cX3_pour 67 = .ok (.iload_n 3, 1) := by decide +kernel
theorem dX3_pour_68 : decode cX3_pour 68 = .ok (.if_icmp .lt 12, 3) := by decide +kernel
theorem dX3_pour_71 : decode cX3_pour 71 = .ok (.aload_n 0, 1) := by decide +kernel
theorem dX3_pour_72 : decode cX3_pour 72 = .ok (.iload 6, 2) := by decide +kernel
theorem dX3_pour_74 : decode cX3_pour 74 = .ok (.invokevirtual 121, 3) := by decide +kernel
theorem dX3_pour_77 : decode cX3_pour 77 = .ok (.ifCond .ne 6, 3) := by decide +kernel
theorem dX3_pour_80 : decode cX3_pour 80 = .ok (.bipush (-3), 2) := by decide +kernel
theorem dX3_pour_82 : decode cX3_pour 82 = .ok (.ireturn, 1) := by decide +kernel
theorem dX3_pour_83 : decode cX3_pour 83 = .ok (.aload 5, 2) := by decide +kernel
theorem dX3_pour_85 : decode cX3_pour 85 = .ok (.getfield 124, 3) := by decide +kernel
theorem dX3_pour_88 : decode cX3_pour 88 = .ok (.iload 6, 2) := by decide +kernel
theorem dX3_pour_90 : decode cX3_pour 90 = .ok (.if_icmp .eq 51, 3) := by decide +kernel
theorem dX3_pour_93 : decode cX3_pour 93 = .ok (.aload_n 0, 1) := by decide +kernel
theorem dX3_pour_94 : decode cX3_pour 94 = .ok (.aload 5, 2) := by decide +kernel
theorem dX3_pour_96 : decode cX3_pour 96 = .ok (.aload_n 0, 1) := by decide +kernel
theorem dX3_pour_97 : decode cX3_pour 97 = .ok (.getfield 17, 3) := by decide +kernel
theorem dX3_pour_100 : decode cX3_pour 100 = .ok (.iload 6, 2) := by decide +kernel
theorem dX3_pour_102 : decode cX3_pour 102 = .ok (.aaload, 1) := by decide +kernel
theorem dX3_pour_103 : decode cX3_pour 103 = .ok (.invokevirtual 213, 3) := by decide +kernel
theorem dX3_pour_106 : decode cX3_pour 106 = .ok (.ifCond .ne 6, 3) := by decide +kernel
theorem dX3_pour_109 : decode cX3_pour 109 = .ok (.bipush (-3), 2) := by decide +kernel
theorem dX3_pour_111 : decode cX3_pour 111 = .ok (.ireturn, 1) := by decide +kernel
theorem dX3_pour_112 : decode cX3_pour 112 = .ok (.aload_n 0, 1) := by decide +kernel
theorem dX3_pour_113 : decode cX3_pour 113 = .ok (.dup, 1) := by decide +kernel
theorem dX3_pour_114 : decode cX3_pour 114 = .ok (.getfield 51, 3) := by decide +kernel
theorem dX3_pour_117 : decode cX3_pour 117 = .ok (.aload_n 0, 1) := by decide +kernel
theorem dX3_pour_118 : decode cX3_pour 118 = .ok (.aload 5, 2) := by decide +kernel
theorem dX3_pour_120 : decode cX3_pour 120 = .ok (.aload_n 0, 1) := by decide +kernel
theorem dX3_pour_121 : decode cX3_pour 121 = .ok (.getfield 17, 3) := by decide +kernel
theorem dX3_pour_124 : decode cX3_pour 124 = .ok (.iload 6, 2) := by decide +kernel
theorem dX3_pour_126 : decode cX3_pour 126 = .ok (.aaload, 1) := by decide +kernel
theorem dX3_pour_127 : decode cX3_pour 127 = .ok (.invokevirtual 137, 3) := by decide +kernel
theorem dX3_pour_130 : decode cX3_pour 130 = .ok (.iadd, 1) := by decide +kernel
theorem dX3_pour_131 : decode cX3_pour 131 = .ok (.putfield 51, 3) := by decide +kernel
theorem dX3_pour_134 : decode cX3_pour 134 = .ok (.aload 5, 2) := by decide +kernel
theorem dX3_pour_136 : decode cX3_pour 136 = .ok (.iload 6, 2) := by decide +kernel
theorem dX3_pour_138 : decode cX3_pour 138 = .ok (.putfield 124, 3) := by decide +kernel
theorem dX3_pour_141 : decode cX3_pour 141 = .ok (.aload 5, 2) := by decide +kernel
theorem dX3_pour_143 : decode cX3_pour 143 = .ok (.dup, 1) := by decide +kernel
theorem dX3_pour_144 : decode cX3_pour 144 = .ok (.getfield 127, 3) := by decide +kernel
theorem dX3_pour_147 : decode cX3_pour 147 = .ok (.iload_n 3, 1) := by decide +kernel
theorem dX3_pour_148 : decode cX3_pour 148 = .ok (.iadd, 1) := by decide +kernel
theorem dX3_pour_149 : decode cX3_pour 149 = .ok (.putfield 127, 3) := by decide +kernel
theorem dX3_pour_152 : decode cX3_pour 152 = .ok (.aload 4, 2) := by decide +kernel
theorem dX3_pour_154 : decode cX3_pour 154 = .ok (.dup, 1) := by decide +kernel
theorem dX3_pour_155 : decode cX3_pour 155 = .ok (.getfield 127, 3) := by decide +kernel
theorem dX3_pour_158 : decode cX3_pour 158 = .ok (.iload_n 3, 1) := by decide +kernel
theorem dX3_pour_159 : decode cX3_pour 159 = .ok (.isub, 1) := by decide +kernel
theorem dX3_pour_160 : decode cX3_pour 160 = .ok (.putfield 127, 3) := by decide +kernel
theorem dX3_pour_163 : decode cX3_pour 163 = .ok (.aload 4, 2) := by decide +kernel
theorem dX3_pour_165 : decode cX3_pour 165 = .ok (.getfield 127, 3) := by decide +kernel
theorem dX3_pour_168 : decode cX3_pour 168 = .ok (.ifCond .ne 23, 3) := by decide +kernel
theorem dX3_pour_171 : decode cX3_pour 171 = .ok (.aload 4, 2) := by decide +kernel
theorem dX3_pour_173 : decode cX3_pour 173 = .ok (.aload_n 0, 1) := by decide +kernel
theorem dX3_pour_174 : decode cX3_pour 174 = .ok (.getfield 17, 3) := by decide +kernel
theorem dX3_pour_177 : decode cX3_pour 177 = .ok (.iload 6, 2) := by decide +kernel
theorem dX3_pour_179 : decode cX3_pour 179 = .ok (.aaload, 1) := by decide +kernel
theorem dX3_pour_180 : decode cX3_pour 180 = .ok (.getfield 99, 3) := by decide +kernel
theorem dX3_pour_183 : decode cX3_pour 183 = .ok (.invokevirtual 209, 3) := by decide +kernel
theorem dX3_pour_186 : decode cX3_pour 186 = .ok (.aload_n 0, 1) := by decide +kernel
theorem dX3_pour_187 : decode cX3_pour 187 = .ok (.iconst 0, 1) := by decide +kernel
theorem dX3_pour_188 : decode cX3_pour 188 = .ok (.putfield 54, 3) := by decide +kernel
theorem dX3_pour_191 : decode cX3_pour 191 = .ok (.aload 5, 2) := by decide +kernel
theorem dX3_pour_193 : decode cX3_pour 193 = .ok (.getfield 127, 3) := by decide +kernel
theorem dX3_pour_196 : decode cX3_pour 196 = .ok (.ireturn, 1) := by decide +kernel
theorem dX3_many_0 : decode cX3_many 0 = .ok (.iload_n 1, 1) := by decide +kernel
theorem dX3_many_1 : decode cX3_many 1 = .ok (.tableswitch 63 0 4 #[35, 40, 45, 50, 55], 35) := by decide +kernel
theorem dX3_many_36 : decode cX3_many 36 = .ok (.aload_n 0, 1) := by decide +kernel
theorem dX3_many_37 : decode cX3_many 37 = .ok (.getfield 41, 3) := by decide +kernel
theorem dX3_many_40 : decode cX3_many 40 = .ok (.ireturn, 1) := by decide +kernel
theorem dX3_many_41 : decode cX3_many 41 = .ok (.aload_n 0, 1) := by decide +kernel
theorem dX3_many_42 : decode cX3_many 42 = .ok (.getfield 45, 3) := by decide +kernel
theorem dX3_many_45 : decode cX3_many 45 = .ok (.ireturn, 1) := by decide +kernel
theorem dX3_many_46 : decode cX3_many 46 = .ok (.aload_n 0, 1) := by decide +kernel
theorem dX3_many_47 : decode cX3_many 47 = .ok (.invokevirtual 206, 3) := by decide +kernel
theorem dX3_many_50 : decode cX3_many 50 = .ok (.ireturn, 1) := by decide +kernel
theorem dX3_many_51 : decode cX3_many 51 = .ok (.aload_n 0, 1) := by decide +kernel
theorem dX3_many_52 : decode cX3_many 52 = .ok (.getfield 51, 3) := by decide +kernel
theorem dX3_many_55 : decode cX3_many 55 = .ok (.ireturn, 1) := by decide +kernel
theorem dX3_many_56 : decode cX3_many 56 = .ok (.aload_n 0, 1) := by decide +kernel
theorem dX3_many_57 : decode cX3_many 57 = .ok (.invokevirtual 217, 3) := by decide +kernel
theorem dX3_many_60 : decode cX3_many 60 = .ok (.ldc 181, 2) := by decide +kernel
theorem dX3_many_62 : decode cX3_many 62 = .ok (.iadd, 1) := by decide +kernel
theorem dX3_many_63 : decode cX3_many 63 = .ok (.ireturn, 1) := by decide +kernel
theorem dX3_many_64 : decode cX3_many 64 = .ok (.bipush (-2), 2) := by decide +kernel
theorem dX3_many_66 : decode cX3_many 66 = .ok (.ireturn, 1) := by decide +kernel
theorem dX3_within_0 : decode cX3_within 0 = .ok (.iload_n 0, 1) := by decide +kernel
theorem dX3_within_1 : decode cX3_within 1 = .ok (.iload_n 1, 1) := by decide +kernel
theorem dX3_within_2 : decode cX3_within 2 = .ok (.if_icmp .lt 12, 3) := by decide +kernel
theorem dX3_within_5 : decode cX3_within 5 = .ok (.iload_n 0, 1) := by decide +kernel
theorem dX3_within_6 : decode cX3_within 6 = .ok (.iload_n 2, 1) := by decide +kernel
theorem dX3_within_7 : decode cX3_within 7 = .ok (.if_icmp .gt 7, 3) := by decide +kernel
theorem dX3_within_10 : decode cX3_within 10 = .ok (.iconst 1, 1) := by decide +kernel
theorem dX3_within_11 : decode cX3_within 11 = .ok (.goto 4, 3) := by decide +kernel
theorem dX3_within_14 : decode cX3_within 14 = .ok (.iconst 0, 1) := by decide +kernel
theorem dX3_within_15 : decode cX3_within 15 = .ok (.ireturn, 1) := by decide +kernel
theorem dX3_isLiquid_0 : decode cX3_isLiquid 0 = .ok (.iload_n 0, 1) := by decide +kernel
theorem dX3_isLiquid_1 : decode cX3_isLiquid 1 = .ok (.iconst 0, 1) := by decide +kernel
theorem dX3_isLiquid_2 : decode cX3_isLiquid 2 = .ok (.bipush 7, 2) := by decide +kernel
theorem dX3_isLiquid_4 : decode cX3_isLiquid 4 = .ok (.invokestatic 60, 3) := by decide +kernel
theorem dX3_isLiquid_7 : decode cX3_isLiquid 7 = .ok (.ireturn, 1) := by decide +kernel
theorem dX3_isLiquidSet_0 : decode cX3_isLiquidSet 0 = .ok (.iload_n 0, 1) := by decide +kernel
theorem dX3_isLiquidSet_1 : decode cX3_isLiquidSet 1 = .ok (.iconst 0, 1) := by decide +kernel
theorem dX3_isLiquidSet_2 : decode cX3_isLiquidSet 2 = .ok (.sipush 255, 3) := by decide +kernel
theorem dX3_isLiquidSet_5 : decode cX3_isLiquidSet 5 = .ok (.invokestatic 60, 3) := by decide +kernel
theorem dX3_isLiquidSet_8 : decode cX3_isLiquidSet 8 = .ok (.ireturn, 1) := by decide +kernel
theorem dX3_isAmount_0 : decode cX3_isAmount 0 = .ok (.iload_n 0, 1) := by decide +kernel
theorem dX3_isAmount_1 : decode cX3_isAmount 1 = .ok (.iconst 1, 1) := by decide +kernel
theorem dX3_isAmount_2 : decode cX3_isAmount 2 = .ok (.sipush 400, 3) := by decide +kernel
theorem dX3_isAmount_5 : decode cX3_isAmount 5 = .ok (.invokestatic 60, 3) := by decide +kernel
theorem dX3_isAmount_8 : decode cX3_isAmount 8 = .ok (.ireturn, 1) := by decide +kernel
theorem dX3_isTank_0 : decode cX3_isTank 0 = .ok (.iload_n 1, 1) := by decide +kernel
theorem dX3_isTank_1 : decode cX3_isTank 1 = .ok (.ifCond .lt 15, 3) := by decide +kernel
theorem dX3_isTank_4 : decode cX3_isTank 4 = .ok (.iload_n 1, 1) := by decide +kernel
theorem dX3_isTank_5 : decode cX3_isTank 5 = .ok (.aload_n 0, 1) := by decide +kernel
theorem dX3_isTank_6 : decode cX3_isTank 6 = .ok (.getfield 41, 3) := by decide +kernel
theorem dX3_isTank_9 : decode cX3_isTank 9 = .ok (.if_icmp .ge 7, 3) := by decide +kernel
theorem dX3_isTank_12 : decode cX3_isTank 12 = .ok (.iconst 1, 1) := by decide +kernel
theorem dX3_isTank_13 : decode cX3_isTank 13 = .ok (.goto 4, 3) := by decide +kernel
theorem dX3_isTank_16 : decode cX3_isTank 16 = .ok (.iconst 0, 1) := by decide +kernel
