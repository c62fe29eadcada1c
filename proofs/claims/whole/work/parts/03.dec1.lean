theorem dX4_init_0 : decode cX4_init 0 = .ok (.aload_n 0, 1) := by decide +kernel
theorem dX4_init_1 : decode cX4_init 1 = .ok (.invokespecial 1, 3) := by decide +kernel
theorem dX4_init_4 : decode cX4_init 4 = .ok (.aload_n 0, 1) := by decide +kernel
theorem dX4_init_5 : decode cX4_init 5 = .ok (.bipush 6, 2) := by decide +kernel
theorem dX4_init_7 : decode cX4_init 7 = .ok (.newarray .int, 2) := by decide +kernel
theorem dX4_init_9 : decode cX4_init 9 = .ok (.putfield 7, 3) := by decide +kernel
theorem dX4_init_12 : decode cX4_init 12 = .ok (.aload_n 0, 1) := by decide +kernel
theorem dX4_init_13 : decode cX4_init 13 = .ok (.bipush 6, 2) := by decide +kernel
theorem dX4_init_15 : decode cX4_init 15 = .ok (.newarray .int, 2) := by decide +kernel
theorem dX4_init_17 : decode cX4_init 17 = .ok (.putfield 13, 3) := by decide +kernel
theorem dX4_init_20 : decode cX4_init 20 = .ok (.aload_n 0, 1) := by decide +kernel
theorem dX4_init_21 : decode cX4_init 21 = .ok (.bipush 6, 2) := by decide +kernel
theorem dX4_init_23 : decode cX4_init 23 = .ok (.newarray .int, 2) := by decide +kernel
theorem dX4_init_25 : decode cX4_init 25 = .ok (.putfield 16, 3) := by decide +kernel
theorem dX4_init_28 : decode cX4_init 28 = .ok (.aload_n 0, 1) := by decide +kernel
theorem dX4_init_29 : decode cX4_init 29 = .ok (.bipush 6, 2) := by decide +kernel
theorem dX4_init_31 : decode cX4_init 31 = .ok (.newarray .int, 2) := by decide +kernel
theorem dX4_init_33 : decode cX4_init 33 = .ok (.putfield 19, 3) := by decide +kernel
theorem dX4_init_36 : decode cX4_init 36 = .ok (.aload_n 0, 1) := by decide +kernel
theorem dX4_init_37 : decode cX4_init 37 = .ok (.bipush 18, 2) := by decide +kernel
theorem dX4_init_39 : decode cX4_init 39 = .ok (.newarray .int, 2) := by decide +kernel
theorem dX4_init_41 : decode cX4_init 41 = .ok (.putfield 22, 3) := by decide +kernel
theorem dX4_init_44 : decode cX4_init 44 = .ok (.aload_n 0, 1) := by decide +kernel
theorem dX4_init_45 : decode cX4_init 45 = .ok (.bipush 6, 2) := by decide +kernel
theorem dX4_init_47 : decode cX4_init 47 = .ok (.newarray .int, 2) := by decide +kernel
theorem dX4_init_49 : decode cX4_init 49 = .ok (.putfield 25, 3) := by decide +kernel
theorem dX4_init_52 : decode cX4_init 52 = .ok (.aload_n 0, 1) := by decide +kernel
theorem dX4_init_53 : decode cX4_init 53 = .ok (.bipush 6, 2) := by decide +kernel
theorem dX4_init_55 : decode cX4_init 55 = .ok (.newarray .int, 2) := by decide +kernel
theorem dX4_init_57 : decode cX4_init 57 = .ok (.putfield 28, 3) := by decide +kernel
theorem dX4_init_60 : decode cX4_init 60 = .ok (.aload_n 0, 1) := by decide +kernel
theorem dX4_init_61 : decode cX4_init 61 = .ok (.bipush 6, 2) := by decide +kernel
theorem dX4_init_63 : decode cX4_init 63 = .ok (.newarray .int, 2) := by decide +kernel
theorem dX4_init_65 : decode cX4_init 65 = .ok (.putfield 31, 3) := by decide +kernel
theorem dX4_init_68 : decode cX4_init 68 = .ok (.aload_n 0, 1) := by decide +kernel
theorem dX4_init_69 : decode cX4_init 69 = .ok (.iconst 4, 1) := by decide +kernel
theorem dX4_init_70 : decode cX4_init 70 = .ok (.newarray .int, 2) := by decide +kernel
theorem dX4_init_72 : decode cX4_init 72 = .ok (.putfield 34, 3) := by decide +kernel
theorem dX4_init_75 : decode cX4_init 75 = .ok (.aload_n 0, 1) := by decide +kernel
theorem dX4_init_76 : decode cX4_init 76 = .ok (.iconst 4, 1) := by decide +kernel
theorem dX4_init_77 : decode cX4_init 77 = .ok (.newarray .int, 2) := by decide +kernel
theorem dX4_init_79 : decode cX4_init 79 = .ok (.putfield 37, 3) := by decide +kernel
theorem dX4_init_82 : decode cX4_init 82 = .ok (.aload_n 0, 1) := by decide +kernel
theorem dX4_init_83 : decode cX4_init 83 = .ok (.iconst 4, 1) := by decide +kernel
theorem dX4_init_84 : decode cX4_init 84 = .ok (.newarray .int, 2) := by decide +kernel
theorem dX4_init_86 : decode cX4_init 86 = .ok (.putfield 40, 3) := by decide +kernel
theorem dX4_init_89 : decode cX4_init 89 = .ok (.aload_n 0, 1) := by decide +kernel
theorem dX4_init_90 : decode cX4_init 90 = .ok (.iconst 4, 1) := by decide +kernel
theorem dX4_init_91 : decode cX4_init 91 = .ok (.newarray .int, 2) := by decide +kernel
theorem dX4_init_93 : decode cX4_init 93 = .ok (.putfield 43, 3) := by decide +kernel
theorem dX4_init_96 : decode cX4_init 96 = .ok (.aload_n 0, 1) := by decide +kernel
theorem dX4_init_97 : decode cX4_init 97 = .ok (.iconst 4, 1) := by decide +kernel
theorem dX4_init_98 : decode cX4_init 98 = .ok (.newarray .int, 2) := by decide +kernel
theorem dX4_init_100 : decode cX4_init 100 = .ok (.putfield 46, 3) := by decide +kernel
theorem dX4_init_103 : decode cX4_init 103 = .ok (.aload_n 0, 1) := by decide +kernel
theorem dX4_init_104 : decode cX4_init 104 = .ok (.iconst 4, 1) := by decide +kernel
theorem dX4_init_105 : decode cX4_init 105 = .ok (.newarray .int, 2) := by decide +kernel
theorem dX4_init_107 : decode cX4_init 107 = .ok (.putfield 49, 3) := by decide +kernel
theorem dX4_init_110 : decode cX4_init 110 = .ok (.aload_n 0, 1) := by decide +kernel
theorem dX4_init_111 : decode cX4_init 111 = .ok (.bipush 64, 2) := by decide +kernel
theorem dX4_init_113 : decode cX4_init 113 = .ok (.newarray .int, 2) := by decide +kernel
theorem dX4_init_115 : decode cX4_init 115 = .ok (.putfield 52, 3) := by decide +kernel
theorem dX4_init_118 : decode cX4_init 118 = .ok (.aload_n 0, 1) := by decide +kernel
theorem dX4_init_119 : decode cX4_init 119 = .ok (.sipush 9999, 3) := by decide +kernel
theorem dX4_init_122 : decode cX4_init 122 = .ok (.putfield 55, 3) := by decide +kernel
theorem dX4_init_125 : decode cX4_init 125 = .ok (.aload_n 0, 1) := by decide +kernel
theorem dX4_init_126 : decode cX4_init 126 = .ok (.bipush 6, 2) := by decide +kernel
theorem dX4_init_128 : decode cX4_init 128 = .ok (.newarray .int, 2) := by decide +kernel
theorem dX4_init_130 : decode cX4_init 130 = .ok (.putfield 59, 3) := by decide +kernel
theorem dX4_init_133 : decode cX4_init 133 = .ok (.aload_n 0, 1) := by decide +kernel
theorem dX4_init_134 : decode cX4_init 134 = .ok (.bipush 6, 2) := by decide +kernel
theorem dX4_init_136 : decode cX4_init 136 = .ok (.newarray .int, 2) := by decide +kernel
theorem dX4_init_138 : decode cX4_init 138 = .ok (.putfield 62, 3) := by decide +kernel
theorem dX4_init_141 : decode cX4_init 141 = .ok (.aload_n 0, 1) := by decide +kernel
theorem dX4_init_142 : decode cX4_init 142 = .ok (.bipush 6, 2) := by decide +kernel
theorem dX4_init_144 : decode cX4_init 144 = .ok (.newarray .int, 2) := by decide +kernel
theorem dX4_init_146 : decode cX4_init 146 = .ok (.putfield 65, 3) := by decide +kernel
theorem dX4_init_149 : decode cX4_init 149 = .ok (.aload_n 0, 1) := by decide +kernel
theorem dX4_init_150 : decode cX4_init 150 = .ok (.iconst 5, 1) := by decide +kernel
theorem dX4_init_151 : decode cX4_init 151 = .ok (.newarray .int, 2) := by decide +kernel
theorem dX4_init_153 : decode cX4_init 153 = .ok (.putfield 68, 3) := by decide +kernel
theorem dX4_init_156 : decode cX4_init 156 = .ok (.iconst 0, 1) := by decide +kernel
theorem dX4_init_157 : decode cX4_init 157 = .ok (.istore_n 1, 1) := by decide +kernel
theorem dX4_init_158 : decode cX4_init 158 = .ok (.iload_n 1, 1) := by decide +kernel
theorem dX4_init_159 : decode cX4_init 159 = .ok (.bipush 18, 2) := by decide +kernel
theorem dX4_init_161 : decode cX4_init 161 = .ok (.if_icmp .ge 17, 3) := by decide +kernel
theorem dX4_init_164 : decode cX4_init 164 = .ok (.aload_n 0, 1) := by decide +kernel
theorem dX4_init_165 : decode cX4_init 165 = .ok (.getfield 22, 3) := by decide +kernel
theorem dX4_init_168 : decode cX4_init 168 = .ok (.iload_n 1, 1) := by decide +kernel
theorem dX4_init_169 : decode cX4_init 169 = .ok (.bipush (-9), 2) := by decide +kernel
theorem dX4_init_171 : decode cX4_init 171 = .ok (.iastore, 1) := by decide +kernel
theorem dX4_init_172 : decode cX4_init 172 = .ok (.iinc 1 1, 3) := by decide +kernel
theorem dX4_init_175 : decode cX4_init 175 = .ok (.goto (-17), 3) := by decide +kernel
theorem dX4_init_178 : decode cX4_init 178 = .ok (.iconst 0, 1) := by decide +kernel
theorem dX4_init_179 : decode cX4_init 179 = .ok (.istore_n 1, 1) := by decide +kernel
theorem dX4_init_180 : decode cX4_init 180 = .ok (.iload_n 1, 1) := by decide +kernel
theorem dX4_init_181 : decode cX4_init 181 = .ok (.bipush 6, 2) := by decide +kernel
theorem dX4_init_183 : decode cX4_init 183 = .ok (.if_icmp .ge 25, 3) := by decide +kernel
theorem dX4_init_186 : decode cX4_init 186 = .ok (.aload_n 0, 1) := by decide +kernel
theorem dX4_init_187 : decode cX4_init 187 = .ok (.getfield 25, 3) := by decide +kernel
theorem dX4_init_190 : decode cX4_init 190 = .ok (.iload_n 1, 1) := by decide +kernel
theorem dX4_init_191 : decode cX4_init 191 = .ok (.bipush (-9), 2) := by decide +kernel
theorem dX4_init_193 : decode cX4_init 193 = .ok (.iastore, 1) := by decide +kernel
theorem dX4_init_194 : decode cX4_init 194 = .ok (.aload_n 0, 1) := by decide +kernel
theorem dX4_init_195 : decode cX4_init 195 = .ok (.getfield 28, 3) := by decide +kernel
theorem dX4_init_198 : decode cX4_init 198 = .ok (.iload_n 1, 1) := by decide +kernel
theorem dX4_init_199 : decode cX4_init 199 = .ok (.bipush (-9), 2) := by decide +kernel
theorem dX4_init_201 : decode cX4_init 201 = .ok (.iastore, 1) := by decide +kernel
theorem dX4_init_202 : decode cX4_init 202 = .ok (.iinc 1 1, 3) := by decide +kernel
theorem dX4_init_205 : decode cX4_init 205 = .ok (.goto (-25), 3) := by decide +kernel
theorem dX4_init_208 : decode cX4_init 208 = .ok (.return_, 1) := by decide +kernel
theorem dX4_within_0 : decode cX4_within 0 = .ok (.iload_n 0, 1) := by decide +kernel
theorem dX4_within_1 : decode cX4_within 1 = .ok (.iload_n 1, 1) := by decide +kernel
theorem dX4_within_2 : decode cX4_within 2 = .ok (.if_icmp .lt 12, 3) := by decide +kernel
theorem dX4_within_5 : decode cX4_within 5 = .ok (.iload_n 0, 1) := by decide +kernel
theorem dX4_within_6 : decode cX4_within 6 = .ok (.iload_n 2, 1) := by decide +kernel
theorem dX4_within_7 : decode cX4_within 7 = .ok (.if_icmp .gt 7, 3) := by decide +kernel
theorem dX4_within_10 : decode cX4_within 10 = .ok (.iconst 1, 1) := by decide +kernel
theorem dX4_within_11 : decode cX4_within 11 = .ok (.goto 4, 3) := by decide +kernel
theorem dX4_within_14 : decode cX4_within 14 = .ok (.iconst 0, 1) := by decide +kernel
theorem dX4_within_15 : decode cX4_within 15 = .ok (.ireturn, 1) := by decide +kernel
theorem dX4_isLiquid_0 : decode cX4_isLiquid 0 = .ok (.iload_n 0, 1) := by decide +kernel
theorem dX4_isLiquid_1 : decode cX4_isLiquid 1 = .ok (.iconst 0, 1) := by decide +kernel
theorem dX4_isLiquid_2 : decode cX4_isLiquid 2 = .ok (.bipush 7, 2) := by decide +kernel
theorem dX4_isLiquid_4 : decode cX4_isLiquid 4 = .ok (.invokestatic 71, 3) := by decide +kernel
theorem dX4_isLiquid_7 : decode cX4_isLiquid 7 = .ok (.ireturn, 1) := by decide +kernel
theorem dX4_has_0 : decode cX4_has 0 = .ok (.iload_n 0, 1) := by decide +kernel
theorem dX4_has_1 : decode cX4_has 1 = .ok (.iload_n 1, 1) := by decide +kernel
theorem dX4_has_2 : decode cX4_has 2 = .ok (.ishr, 1) := by decide +kernel
theorem dX4_has_3 : decode cX4_has 3 = .ok (.iconst 1, 1) := by decide +kernel
theorem dX4_has_4 : decode cX4_has 4 = .ok (.iand, 1) := by decide +kernel
theorem dX4_has_5 : decode cX4_has 5 = .ok (.iconst 1, 1) := by decide +kernel
theorem dX4_has_6 : decode cX4_has 6 = .ok (.if_icmp .ne 7, 3) := by decide +kernel
theorem dX4_has_9 : decode cX4_has 9 = .ok (.iconst 1, 1) := by decide +kernel
theorem dX4_has_10 : decode cX4_has 10 = .ok (.goto 4, 3) := by decide +kernel
theorem dX4_has_13 : decode cX4_has 13 = .ok (.iconst 0, 1) := by decide +kernel
theorem dX4_has_14 : decode cX4_has 14 = .ok (.ireturn, 1) := by decide +kernel
theorem dX4_isTank_0 : decode cX4_isTank 0 = .ok (.iload_n 1, 1) := by decide +kernel
theorem dX4_isTank_1 : decode cX4_isTank 1 = .ok (.iconst 0, 1) := by decide +kernel
theorem dX4_isTank_2 : decode cX4_isTank 2 = .ok (.aload_n 0, 1) := by decide +kernel
theorem dX4_isTank_3 : decode cX4_isTank 3 = .ok (.getfield 75, 3) := by decide +kernel
theorem dX4_isTank_6 : decode cX4_isTank 6 = .ok (.iconst 1, 1) := by decide +kernel
theorem dX4_isTank_7 : decode cX4_isTank 7 = .ok (.isub, 1) := by decide +kernel
theorem dX4_isTank_8 : decode cX4_isTank 8 = .ok (.invokestatic 71, 3) := by decide +kernel
theorem dX4_isTank_11 : decode cX4_isTank 11 = .ok (.ireturn, 1) := by decide +kernel
theorem dX4_areTwo_0 : decode cX4_areTwo 0 = .ok (.aload_n 0, 1) := by decide +kernel
theorem dX4_areTwo_1 : decode cX4_areTwo 1 = .ok (.iload_n 1, 1) := by decide +kernel
theorem dX4_areTwo_2 : decode cX4_areTwo 2 = .ok (.invokevirtual 78, 3) := by decide +kernel
theorem dX4_areTwo_5 : decode cX4_areTwo 5 = .ok (.ifCond .eq 20, 3) := by decide +kernel
theorem dX4_areTwo_8 : decode cX4_areTwo 8 = .ok (.aload_n 0, 1) := by decide +kernel
theorem dX4_areTwo_9 : decode cX4_areTwo 9 = .ok (.iload_n 2, 1) := by decide +kernel
theorem dX4_areTwo_10 : decode cX4_areTwo 10 = .ok (.invokevirtual 78, 3) := by decide +kernel
theorem dX4_areTwo_13 : decode cX4_areTwo 13 = .ok (.ifCond .eq 12, 3) := by decide +kernel
theorem dX4_areTwo_16 : decode cX4_areTwo 16 = .ok (.iload_n 1, 1) := by decide +kernel
theorem dX4_areTwo_17 : decode cX4_areTwo 17 = .ok (.iload_n 2, 1) := by decide +kernel
theorem dX4_areTwo_18 : decode cX4_areTwo 18 = .ok (.if_icmp .eq 7, 3) := by decide +kernel
theorem dX4_areTwo_21 : decode cX4_areTwo 21 = .ok (.iconst 1, 1) := by decide +kernel
theorem dX4_areTwo_22 : decode cX4_areTwo 22 = .ok (.goto 4, 3) := by decide +kernel
theorem dX4_areTwo_25 : decode cX4_areTwo 25 = .ok (.iconst 0, 1) := by decide +kernel
theorem dX4_areTwo_26 : decode cX4_areTwo 26 = .ok (.ireturn, 1) := by decide +kernel
theorem dX4_tank_0 : decode cX4_tank 0 = .ok (.iload_n 1, 1) := by decide +kernel
theorem dX4_tank_1 : decode cX4_tank 1 = .ok (.iconst 1, 1) := by decide +kernel
theorem dX4_tank_2 : decode cX4_tank 2 = .ok (.bipush 99, 2) := by decide +kernel
theorem dX4_tank_4 : decode cX4_tank 4 = .ok (.invokestatic 71, 3) := by decide +kernel
theorem dX4_tank_7 : decode cX4_tank 7 = .ok (.ifCond .eq 23, 3) := by decide +kernel
theorem dX4_tank_10 : decode cX4_tank 10 = .ok (.iload_n 2, 1) := by decide +kernel
theorem dX4_tank_11 : decode cX4_tank 11 = .ok (.iconst 0, 1) := by decide +kernel
theorem dX4_tank_12 : decode cX4_tank 12 = .ok (.iconst 3, 1) := by decide +kernel
theorem dX4_tank_13 : decode cX4_tank 13 = .ok (.invokestatic 71, 3) := by decide +kernel
theorem dX4_tank_16 : decode cX4_tank 16 = .ok (.ifCond .eq 14, 3) := by decide +kernel
theorem dX4_tank_19 : decode cX4_tank 19 = .ok (.iload_n 3, 1) := by decide +kernel
theorem dX4_tank_20 : decode cX4_tank 20 = .ok (.bipush (-9), 2) := by decide +kernel
theorem dX4_tank_22 : decode cX4_tank 22 = .ok (.bipush 9, 2) := by decide +kernel
theorem dX4_tank_24 : decode cX4_tank 24 = .ok (.invokestatic 71, 3) := by decide +kernel
theorem dX4_tank_27 : decode cX4_tank 27 = .ok (.ifCond .ne 6, 3) := by decide +kernel
theorem dX4_tank_30 : decode cX4_tank 30 = .ok (.bipush (-2), 2) := by decide +kernel
theorem dX4_tank_32 : decode cX4_tank 32 = .ok (.ireturn, 1) := by decide +kernel
theorem dX4_tank_33 : decode cX4_tank 33 = .ok (.aload_n 0, 1) := by decide +kernel
theorem dX4_tank_34 : decode cX4_tank 34 = .ok (.getfield 75, 3) := by decide +kernel
theorem dX4_tank_37 : decode cX4_tank 37 = .ok (.bipush 6, 2) := by decide +kernel
theorem dX4_tank_39 : decode cX4_tank 39 = .ok (.if_icmp .ne 6, 3) := by decide +kernel
theorem dX4_tank_42 : decode cX4_tank 42 = .ok (.bipush (-4), 2) := by decide +kernel
theorem dX4_tank_44 : decode cX4_tank 44 = .ok (.ireturn, 1) := by decide +kernel
theorem dX4_tank_45 : decode cX4_tank 45 = .ok (.aload_n 0, 1) := by decide +kernel
theorem dX4_tank_46 : decode cX4_tank 46 = .ok (.getfield 7, 3) := by decide +kernel
theorem dX4_tank_49 : decode cX4_tank 49 = .ok (.aload_n 0, 1) := by decide +kernel
theorem dX4_tank_50 : decode cX4_tank 50 = .ok (.getfield 75, 3) := by decide +kernel
theorem dX4_tank_53 : decode cX4_tank 53 = .ok (.iload_n 1, 1) := by decide +kernel
theorem dX4_tank_54 : decode cX4_tank 54 = .ok (.iastore, 1) := by decide +kernel
theorem dX4_tank_55 : decode cX4_tank 55 = .ok (.aload_n 0, 1) := by decide +kernel
theorem dX4_tank_56 : decode cX4_tank 56 = .ok (.getfield 13, 3) := by decide +kernel
theorem dX4_tank_59 : decode cX4_tank 59 = .ok (.aload_n 0, 1) := by decide +kernel
theorem dX4_tank_60 : decode cX4_tank 60 = .ok (.getfield 75, 3) := by decide +kernel
theorem dX4_tank_63 : decode cX4_tank 63 = .ok (.iload_n 2, 1) := by decide +kernel
theorem dX4_tank_64 : decode cX4_tank 64 = .ok (.iastore, 1) := by decide +kernel
theorem dX4_tank_65 : decode cX4_tank 65 = .ok (.aload_n 0, 1) := by decide +kernel
theorem dX4_tank_66 : decode cX4_tank 66 = .ok (.getfield 16, 3) := by decide +kernel
theorem dX4_tank_69 : decode cX4_tank 69 = .ok (.aload_n 0, 1) := by decide +kernel
theorem dX4_tank_70 : decode cX4_tank 70 = .ok (.getfield 75, 3) := by decide +kernel
theorem dX4_tank_73 : decode cX4_tank 73 = .ok (.iload_n 3, 1) := by decide +kernel
theorem dX4_tank_74 : decode cX4_tank 74 = .ok (.iastore, 1) := by decide +kernel
theorem dX4_tank_75 : decode cX4_tank 75 = .ok (.aload_n 0, 1) := by decide +kernel
theorem dX4_tank_76 : decode cX4_tank 76 = .ok (.dup, 1) := by decide +kernel
theorem dX4_tank_77 : decode cX4_tank 77 = .ok (.getfield 75, 3) := by decide +kernel
theorem dX4_tank_80 : decode cX4_tank 80 = .ok (.iconst 1, 1) := by decide +kernel
theorem dX4_tank_81 : decode cX4_tank 81 = .ok (.iadd, 1) := by decide +kernel
theorem dX4_tank_82 : decode cX4_tank 82 = .ok (.putfield 75, 3) := by decide +kernel
theorem dX4_tank_85 : decode cX4_tank 85 = .ok (.aload_n 0, 1) := by decide +kernel
theorem dX4_tank_86 : decode cX4_tank 86 = .ok (.getfield 75, 3) := by decide +kernel
theorem dX4_tank_89 : decode cX4_tank 89 = .ok (.iconst 1, 1) := by decide +kernel
theorem dX4_tank_90 : decode cX4_tank 90 = .ok (.isub, 1) := by decide +kernel
theorem dX4_tank_91 : decode cX4_tank 91 = .ok (.ireturn, 1) := by decide +kernel
theorem dX4_neighbours_0 : decode cX4_neighbours 0 = .ok (.aload_n 0, 1) := by decide +kernel
theorem dX4_neighbours_1 : decode cX4_neighbours 1 = .ok (.iload_n 1, 1) := by decide +kernel
theorem dX4_neighbours_2 : decode cX4_neighbours 2 = .ok (.iload_n 2, 1) := by decide +kernel
theorem dX4_neighbours_3 : decode cX4_neighbours 3 = .ok (.invokevirtual 82, 3) := by decide +kernel
theorem dX4_neighbours_6 : decode cX4_neighbours 6 = .ok (.ifCond .ne 5, 3) := by decide +kernel
theorem dX4_neighbours_9 : decode cX4_neighbours 9 = .ok (.iconst (-1), 1) := by decide +kernel
theorem dX4_neighbours_10 : decode cX4_neighbours 10 = .ok (.ireturn, 1) := by decide +kernel
theorem dX4_neighbours_11 : decode cX4_neighbours 11 = .ok (.aload_n 0, 1) := by decide +kernel
theorem dX4_neighbours_12 : decode cX4_neighbours 12 = .ok (.getfield 19, 3) := by decide +kernel
theorem dX4_neighbours_15 : decode cX4_neighbours 15 = .ok (.iload_n 1, 1) := by decide +kernel
theorem dX4_neighbours_16 : decode cX4_neighbours 16 = .ok (.iaload, 1) := by decide +kernel
theorem dX4_neighbours_17 : decode cX4_neighbours 17 = .ok (.iload_n 2, 1) := by decide +kernel
theorem dX4_neighbours_18 : decode cX4_neighbours 18 = .ok (.invokestatic 86, 3) := by decide +kernel
theorem dX4_neighbours_21 : decode cX4_neighbours 21 = .ok (.iload_n 3, 1) := by decide +kernel
theorem dX4_neighbours_22 : decode cX4_neighbours 22 = .ok (.if_icmp .ne 5, 3) := by decide +kernel
theorem dX4_neighbours_25 : decode cX4_neighbours 25 = .ok (.iconst 0, 1) := by decide +kernel
theorem dX4_neighbours_26 : decode cX4_neighbours 26 = .ok (.ireturn, 1) := by decide +kernel
theorem dX4_neighbours_27 : decode cX4_neighbours 27 = .ok (.aload_n 0, 1) := by decide +kernel
theorem dX4_neighbours_28 : decode cX4_neighbours 28 = .ok (.getfield 19, 3) := by decide +kernel
theorem dX4_neighbours_31 : decode cX4_neighbours 31 = .ok (.iload_n 1, 1) := by decide +kernel
theorem dX4_neighbours_32 : decode cX4_neighbours 32 = .ok (.dup2, 1) := by decide +kernel
theorem dX4_neighbours_33 : decode cX4_neighbours 33 = .ok (.iaload, 1) := by decide +kernel
theorem dX4_neighbours_34 : decode cX4_neighbours 34 = .ok (.iconst 1, 1) := by decide +kernel
theorem dX4_neighbours_35 : decode cX4_neighbours 35 = .ok (.iload_n 2, 1) := by decide +kernel
theorem dX4_neighbours_36 : decode cX4_neighbours 36 = .ok (.ishl, 1) := by decide +kernel
theorem dX4_neighbours_37 : decode cX4_neighbours 37 = .ok (.ixor, 1) := by decide +kernel
theorem dX4_neighbours_38 : decode cX4_neighbours 38 = .ok (.iastore, 1) := by decide +kernel
theorem dX4_neighbours_39 : decode cX4_neighbours 39 = .ok (.aload_n 0, 1) := by decide +kernel
theorem dX4_neighbours_40 : decode cX4_neighbours 40 = .ok (.getfield 19, 3) := by decide +kernel
theorem dX4_neighbours_43 : decode cX4_neighbours 43 = .ok (.iload_n 2, 1) := by decide +kernel
theorem dX4_neighbours_44 : decode cX4_neighbours 44 = .ok (.dup2, 1) := by decide +kernel
theorem dX4_neighbours_45 : decode cX4_neighbours 45 = .ok (.iaload, 1) := by decide +kernel
theorem dX4_neighbours_46 : decode cX4_neighbours 46 = .ok (.iconst 1, 1) := by decide +kernel
theorem dX4_neighbours_47 : decode cX4_neighbours 47 = .ok (.iload_n 1, 1) := by decide +kernel
theorem dX4_neighbours_48 : decode cX4_neighbours 48 = .ok (.ishl, 1) := by decide +kernel
theorem dX4_neighbours_49 : decode cX4_neighbours 49 = .ok (.ixor, 1) := by decide +kernel
theorem dX4_neighbours_50 : decode cX4_neighbours 50 = .ok (.iastore, 1) := by decide +kernel
theorem dX4_neighbours_51 : decode cX4_neighbours 51 = .ok (.iconst 1, 1) := by decide +kernel
theorem dX4_neighbours_52 : decode cX4_neighbours 52 = .ok (.ireturn, 1) := by decide +kernel
theorem dX4_latest_0 : decode cX4_latest 0 = .ok (.aload_n 0, 1) := by decide +kernel
theorem dX4_latest_1 : decode cX4_latest 1 = .ok (.iload_n 1, 1) := by decide +kernel
theorem dX4_latest_2 : decode cX4_latest 2 = .ok (.invokevirtual 78, 3) := by decide +kernel
theorem dX4_latest_5 : decode cX4_latest 5 = .ok (.ifCond .ne 5, 3) := by decide +kernel
theorem dX4_latest_8 : decode cX4_latest 8 = .ok (.iconst (-1), 1) := by decide +kernel
theorem dX4_latest_9 : decode cX4_latest 9 = .ok (.ireturn, 1) := by decide +kernel
theorem dX4_latest_10 : decode cX4_latest 10 = .ok (.iload_n 2, 1) := by decide +kernel
theorem dX4_latest_11 : decode cX4_latest 11 = .ok (.iconst 0, 1) := by decide +kernel
theorem dX4_latest_12 : decode cX4_latest 12 = .ok (.iconst 2, 1) := by decide +kernel
theorem dX4_latest_13 : decode cX4_latest 13 = .ok (.invokestatic 71, 3) := by decide +kernel
theorem dX4_latest_16 : decode cX4_latest 16 = .ok (.ifCond .eq 16, 3) := by decide +kernel
theorem dX4_latest_19 : decode cX4_latest 19 = .ok (.iload_n 3, 1) := by decide +kernel
theorem dX4_latest_20 : decode cX4_latest 20 = .ok (.bipush (-9), 2) := by decide +kernel
theorem dX4_latest_22 : decode cX4_latest 22 = .ok (.if_icmp .eq 13, 3) := by decide +kernel
theorem dX4_latest_25 : decode cX4_latest 25 = .ok (.iload_n 3, 1) := by decide +kernel
theorem dX4_latest_26 : decode cX4_latest 26 = .ok (.invokestatic 89, 3) := by decide +kernel
theorem dX4_latest_29 : decode cX4_latest 29 = .ok (.ifCond .ne 6, 3) := by decide +kernel
theorem dX4_latest_32 : decode cX4_latest 32 = .ok (.bipush (-2), 2) := by decide +kernel
theorem dX4_latest_34 : decode cX4_latest 34 = .ok (.ireturn, 1) := by decide +kernel
theorem dX4_latest_35 : decode cX4_latest 35 = .ok (.aload_n 0, 1) := by decide +kernel
theorem dX4_latest_36 : decode cX4_latest 36 = .ok (.getfield 22, 3) := by decide +kernel
theorem dX4_latest_39 : decode cX4_latest 39 = .ok (.iconst 3, 1) := by decide +kernel
theorem dX4_latest_40 : decode cX4_latest 40 = .ok (.iload_n 1, 1) := by decide +kernel
theorem dX4_latest_41 : decode cX4_latest 41 = .ok (.imul, 1) := by decide +kernel
theorem dX4_latest_42 : decode cX4_latest 42 = .ok (.iload_n 2, 1) := by decide +kernel
theorem dX4_latest_43 : decode cX4_latest 43 = .ok (.iadd, 1) := by decide +kernel
theorem dX4_latest_44 : decode cX4_latest 44 = .ok (.iaload, 1) := by decide +kernel
theorem dX4_latest_45 : decode cX4_latest 45 = .ok (.istore 4, 2) := by decide +kernel
theorem dX4_latest_47 : decode cX4_latest 47 = .ok (.aload_n 0, 1) := by decide +kernel
theorem dX4_latest_48 : decode cX4_latest 48 = .ok (.getfield 22, 3) := by decide +kernel
theorem dX4_latest_51 : decode cX4_latest 51 = .ok (.iconst 3, 1) := by decide +kernel
theorem dX4_latest_52 : decode cX4_latest 52 = .ok (.iload_n 1, 1) := by decide +kernel
theorem dX4_latest_53 : decode cX4_latest 53 = .ok (.imul, 1) := by decide +kernel
theorem dX4_latest_54 : decode cX4_latest 54 = .ok (.iload_n 2, 1) := by decide +kernel
theorem dX4_latest_55 : decode cX4_latest 55 = .ok (.iadd, 1) := by decide +kernel
theorem dX4_latest_56 : decode cX4_latest 56 = .ok (.iload_n 3, 1) := by decide +kernel
theorem dX4_latest_57 : decode cX4_latest 57 = .ok (.iastore, 1) := by decide +kernel
theorem dX4_latest_58 : decode cX4_latest 58 = .ok (.iload 4, 2) := by decide +kernel
theorem dX4_latest_60 : decode cX4_latest 60 = .ok (.ireturn, 1) := by decide +kernel
theorem dX4_isCargo_0 : decode cX4_isCargo 0 = .ok (.iload_n 1, 1) := by decide +kernel
theorem dX4_isCargo_1 : decode cX4_isCargo 1 = .ok (.iconst 0, 1) := by decide +kernel
theorem dX4_isCargo_2 : decode cX4_isCargo 2 = .ok (.aload_n 0, 1) := by decide +kernel
theorem dX4_isCargo_3 : decode cX4_isCargo 3 = .ok (.getfield 92, 3) := by decide +kernel
theorem dX4_isCargo_6 : decode cX4_isCargo 6 = .ok (.iconst 1, 1) := by decide +kernel
theorem dX4_isCargo_7 : decode cX4_isCargo 7 = .ok (.isub, 1) := by decide +kernel
theorem dX4_isCargo_8 : decode cX4_isCargo 8 = .ok (.invokestatic 71, 3) := by decide +kernel
theorem dX4_isCargo_11 : decode cX4_isCargo 11 = .ok (.ireturn, 1) := by decide +kernel
theorem dX4_isSet_0 : decode cX4_isSet 0 = .ok (.iload_n 0, 1) := by decide +kernel
theorem dX4_isSet_1 : decode cX4_isSet 1 = .ok (.iconst 0, 1) := by decide +kernel
theorem dX4_isSet_2 : decode cX4_isSet 2 = .ok (.sipush 255, 3) := by decide +kernel
theorem dX4_isSet_5 : decode cX4_isSet 5 = .ok (.invokestatic 71, 3) := by decide +kernel
theorem dX4_isSet_8 : decode cX4_isSet 8 = .ok (.ireturn, 1) := by decide +kernel
theorem dX4_cargo_0 : decode cX4_cargo 0 = .ok (.iload_n 1, 1) := by decide +kernel
theorem dX4_cargo_1 : decode cX4_cargo 1 = .ok (.invokestatic 89, 3) := by decide +kernel
theorem dX4_cargo_4 : decode cX4_cargo 4 = .ok (.ifCond .ne 5, 3) := by decide +kernel
theorem dX4_cargo_7 : decode cX4_cargo 7 = .ok (.iconst (-1), 1) := by decide +kernel
theorem dX4_cargo_8 : decode cX4_cargo 8 = .ok (.ireturn, 1) := by decide +kernel
theorem dX4_cargo_9 : decode cX4_cargo 9 = .ok (.iload_n 2, 1) := by decide +kernel
theorem dX4_cargo_10 : decode cX4_cargo 10 = .ok (.iconst 1, 1) := by decide +kernel
theorem dX4_cargo_11 : decode cX4_cargo 11 = .ok (.sipush 400, 3) := by decide +kernel
theorem dX4_cargo_14 : decode cX4_cargo 14 = .ok (.invokestatic 71, 3) := by decide +kernel
theorem dX4_cargo_17 : decode cX4_cargo 17 = .ok (.ifCond .eq 37, 3) := by decide +kernel
theorem dX4_cargo_20 : decode cX4_cargo 20 = .ok (.iload_n 3, 1) := by decide +kernel
theorem dX4_cargo_21 : decode cX4_cargo 21 = .ok (.iconst 0, 1) := by decide +kernel
theorem dX4_cargo_22 : decode cX4_cargo 22 = .ok (.bipush 15, 2) := by decide +kernel
theorem dX4_cargo_24 : decode cX4_cargo 24 = .ok (.invokestatic 71, 3) := by decide +kernel
theorem dX4_cargo_27 : decode cX4_cargo 27 = .ok (.ifCond .eq 27, 3) := by decide +kernel
theorem dX4_cargo_30 : decode cX4_cargo 30 = .ok (.iload 4, 2) := by decide +kernel
theorem dX4_cargo_32 : decode cX4_cargo 32 = .ok (.invokestatic 95, 3) := by decide +kernel
theorem dX4_cargo_35 : decode cX4_cargo 35 = .ok (.ifCond .eq 19, 3) := by decide +kernel
theorem dX4_cargo_38 : decode cX4_cargo 38 = .ok (.iload 5, 2) := by decide +kernel
theorem dX4_cargo_40 : decode cX4_cargo 40 = .ok (.invokestatic 95, 3) := by decide +kernel
theorem dX4_cargo_43 : decode cX4_cargo 43 = .ok (.ifCond .eq 11, 3) := by decide +kernel
theorem dX4_cargo_46 : decode cX4_cargo 46 = .ok (.iload 6, 2) := by decide +kernel
theorem dX4_cargo_48 : decode cX4_cargo 48 = .ok (.invokestatic 95, 3) := by decide +kernel
theorem dX4_cargo_51 : decode cX4_cargo 51 = .ok (.ifCond .ne 6, 3) := by decide +kernel
theorem dX4_cargo_54 : decode cX4_cargo 54 = .ok (.bipush (-2), 2) := by decide +kernel
theorem dX4_cargo_56 : decode cX4_cargo 56 = .ok (.ireturn, 1) := by decide +kernel
theorem dX4_cargo_57 : decode cX4_cargo 57 = .ok (.aload_n 0, 1) := by decide +kernel
theorem dX4_cargo_58 : decode cX4_cargo 58 = .ok (.getfield 92, 3) := by decide +kernel
theorem dX4_cargo_61 : decode cX4_cargo 61 = .ok (.iconst 4, 1) := by decide +kernel
theorem dX4_cargo_62 : decode cX4_cargo 62 = .ok (.if_icmp .ne 6, 3) := by decide +kernel
theorem dX4_cargo_65 : decode cX4_cargo 65 = .ok (.bipush (-4), 2) := by decide +kernel
theorem dX4_cargo_67 : decode cX4_cargo 67 = .ok (.ireturn, 1) := by decide +kernel
theorem dX4_cargo_68 : decode cX4_cargo 68 = .ok (.aload_n 0, 1) := by decide +kernel
theorem dX4_cargo_69 : decode cX4_cargo 69 = .ok (.getfield 34, 3) := by decide +kernel
theorem dX4_cargo_72 : decode cX4_cargo 72 = .ok (.aload_n 0, 1) := by decide +kernel
theorem dX4_cargo_73 : decode cX4_cargo 73 = .ok (.getfield 92, 3) := by decide +kernel
theorem dX4_cargo_76 : decode cX4_cargo 76 = .ok (.iload_n 1, 1) := by decide +kernel
theorem dX4_cargo_77 : decode cX4_cargo 77 = .ok (.iastore, 1) := by decide +kernel
theorem dX4_cargo_78 : decode cX4_cargo 78 = .ok (.aload_n 0, 1) := by decide +kernel
theorem dX4_cargo_79 : decode cX4_cargo 79 = .ok (.getfield 37, 3) := by decide +kernel
theorem dX4_cargo_82 : decode cX4_cargo 82 = .ok (.aload_n 0, 1) := by decide +kernel
theorem dX4_cargo_83 : decode cX4_cargo 83 = .ok (.getfield 92, 3) := by decide +kernel
theorem dX4_cargo_86 : decode cX4_cargo 86 = .ok (.iload_n 2, 1) := by decide +kernel
theorem dX4_cargo_87 : decode cX4_cargo 87 = .ok (.iastore, 1) := by decide +kernel
theorem dX4_cargo_88 : decode cX4_cargo 88 = .ok (.aload_n 0, 1) := by decide +kernel
theorem dX4_cargo_89 : decode cX4_cargo 89 = .ok (.getfield 40, 3) := by decide +kernel
theorem dX4_cargo_92 : decode cX4_cargo 92 = .ok (.aload_n 0, 1) := by decide +kernel
theorem dX4_cargo_93 : decode cX4_cargo 93 = .ok (.getfield 92, 3) := by decide +kernel
theorem dX4_cargo_96 : decode cX4_cargo 96 = .ok (.iload_n 3, 1) := by decide +kernel
theorem dX4_cargo_97 : decode cX4_cargo 97 = .ok (.iastore, 1) := by decide +kernel
theorem dX4_cargo_98 : decode cX4_cargo 98 = .ok (.aload_n 0, 1) := by decide +kernel
theorem dX4_cargo_99 : decode cX4_cargo 99 = .ok (.getfield 43, 3) := by decide +kernel
theorem dX4_cargo_102 : decode cX4_cargo 102 = .ok (.aload_n 0, 1) := by decide +kernel
theorem dX4_cargo_103 : decode cX4_cargo 103 = .ok (.getfield 92, 3) := by decide +kernel
theorem dX4_cargo_106 : decode cX4_cargo 106 = .ok (.iload 4, 2) := by decide +kernel
theorem dX4_cargo_108 : decode cX4_cargo 108 = .ok (.iastore, 1) := by decide +kernel
theorem dX4_cargo_109 : decode cX4_cargo 109 = .ok (.aload_n 0, 1) := by decide +kernel
theorem dX4_cargo_110 : decode cX4_cargo 110 = .ok (.getfield 46, 3) := by decide +kernel
theorem dX4_cargo_113 : decode cX4_cargo 113 = .ok (.aload_n 0, 1) := by decide +kernel
theorem dX4_cargo_114 : decode cX4_cargo 114 = .ok (.getfield 92, 3) := by decide +kernel
theorem dX4_cargo_117 : decode cX4_cargo 117 = .ok (.iload 5, 2) := by decide +kernel
theorem dX4_cargo_119 : decode cX4_cargo 119 = .ok (.iastore, 1) := by decide +kernel
theorem dX4_cargo_120 : decode cX4_cargo 120 = .ok (.aload_n 0, 1) := by decide +kernel
theorem dX4_cargo_121 : decode cX4_cargo 121 = .ok (.getfield 49, 3) := by decide +kernel
theorem dX4_cargo_124 : decode cX4_cargo 124 = .ok (.aload_n 0, 1) := by decide +kernel
theorem dX4_cargo_125 : decode cX4_cargo 125 = .ok (.getfield 92, 3) := by decide +kernel
theorem dX4_cargo_128 : decode cX4_cargo 128 = .ok (.iload 6, 2) := by decide +kernel
theorem dX4_cargo_130 : decode cX4_cargo 130 = .ok (.iastore, 1) := by decide +kernel
theorem dX4_cargo_131 : decode cX4_cargo 131 = .ok (.aload_n 0, 1) := by decide +kernel
theorem dX4_cargo_132 : decode cX4_cargo 132 = .ok (.dup, 1) := by decide +kernel
theorem dX4_cargo_133 : decode cX4_cargo 133 = .ok (.getfield 92, 3) := by decide +kernel
theorem dX4_cargo_136 : decode cX4_cargo 136 = .ok (.iconst 1, 1) := by decide +kernel
theorem dX4_cargo_137 : decode cX4_cargo 137 = .ok (.iadd, 1) := by decide +kernel
theorem dX4_cargo_138 : decode cX4_cargo 138 = .ok (.putfield 92, 3) := by decide +kernel
theorem dX4_cargo_141 : decode cX4_cargo 141 = .ok (.aload_n 0, 1) := by decide +kernel
theorem dX4_cargo_142 : decode cX4_cargo 142 = .ok (.getfield 92, 3) := by decide +kernel
theorem dX4_cargo_145 : decode cX4_cargo 145 = .ok (.iconst 1, 1) := by decide +kernel
theorem dX4_cargo_146 : decode cX4_cargo 146 = .ok (.isub, 1) := by decide +kernel
theorem dX4_cargo_147 : decode cX4_cargo 147 = .ok (.ireturn, 1) := by decide +kernel
theorem dX4_holders_0 : decode cX4_holders 0 = .ok (.iconst 0, 1) := by decide +kernel
theorem dX4_holders_1 : decode cX4_holders 1 = .ok (.istore_n 2, 1) := by decide +kernel
theorem dX4_holders_2 : decode cX4_holders 2 = .ok (.iconst 0, 1) := by decide +kernel
theorem dX4_holders_3 : decode cX4_holders 3 = .ok (.istore_n 3, 1) := by decide +kernel
theorem dX4_holders_4 : decode cX4_holders 4 = .ok (.iload_n 3, 1) := by decide +kernel
theorem dX4_holders_5 : decode cX4_holders 5 = .ok (.aload_n 0, 1) := by decide +kernel
theorem dX4_holders_6 : decode cX4_holders 6 = .ok (.getfield 75, 3) := by decide +kernel
theorem dX4_holders_9 : decode cX4_holders 9 = .ok (.if_icmp .ge 27, 3) := by decide +kernel
theorem dX4_holders_12 : decode cX4_holders 12 = .ok (.iload_n 2, 1) := by decide +kernel
theorem dX4_holders_13 : decode cX4_holders 13 = .ok (.aload_n 0, 1) := by decide +kernel
theorem dX4_holders_14 : decode cX4_holders 14 = .ok (.getfield 28, 3) := by decide +kernel
theorem dX4_holders_17 : decode cX4_holders 17 = .ok (.iload_n 3, 1) := by decide +kernel
theorem dX4_holders_18 : decode cX4_holders 18 = .ok (.iaload, 1) := by decide +kernel
theorem dX4_holders_19 : decode cX4_holders 19 = .ok (.iload_n 1, 1) := by decide +kernel
theorem dX4_holders_20 : decode cX4_holders 20 = .ok (.if_icmp .ne 7, 3) := by decide +kernel
theorem dX4_holders_23 : decode cX4_holders 23 = .ok (.iconst 1, 1) := by decide +kernel
theorem dX4_holders_24 : decode cX4_holders 24 = .ok (.goto 4, 3) := by decide +kernel
theorem dX4_holders_27 : decode cX4_holders 27 = .ok (.iconst 0, 1) := by decide +kernel
theorem dX4_holders_28 : decode cX4_holders 28 = .ok (.iadd, 1) := by decide +kernel
theorem dX4_holders_29 : decode cX4_holders 29 = .ok (.istore_n 2, 1) := by decide +kernel
theorem dX4_holders_30 : decode cX4_holders 30 = .ok (.iinc 3 1, 3) := by decide +kernel
theorem dX4_holders_33 : decode cX4_holders 33 = .ok (.goto (-29), 3) := by decide +kernel
theorem dX4_holders_36 : decode cX4_holders 36 = .ok (.iload_n 2, 1) := by decide +kernel
theorem dX4_holders_37 : decode cX4_holders 37 = .ok (.ireturn, 1) := by decide +kernel
theorem dX4_uncargo_0 : decode cX4_uncargo 0 = .ok (.aload_n 0, 1) := by decide +kernel
theorem dX4_uncargo_1 : decode cX4_uncargo 1 = .ok (.getfield 92, 3) := by decide +kernel
theorem dX4_uncargo_4 : decode cX4_uncargo 4 = .ok (.ifCond .eq 16, 3) := by decide +kernel
theorem dX4_uncargo_7 : decode cX4_uncargo 7 = .ok (.aload_n 0, 1) := by decide +kernel
theorem dX4_uncargo_8 : decode cX4_uncargo 8 = .ok (.aload_n 0, 1) := by decide +kernel
theorem dX4_uncargo_9 : decode cX4_uncargo 9 = .ok (.getfield 92, 3) := by decide +kernel
theorem dX4_uncargo_12 : decode cX4_uncargo 12 = .ok (.iconst 1, 1) := by decide +kernel
theorem dX4_uncargo_13 : decode cX4_uncargo 13 = .ok (.isub, 1) := by decide +kernel
theorem dX4_uncargo_14 : decode cX4_uncargo 14 = .ok (.invokevirtual 98, 3) := by decide +kernel
theorem dX4_uncargo_17 : decode cX4_uncargo 17 = .ok (.ifCond .le 6, 3) := by decide +kernel
theorem dX4_uncargo_20 : decode cX4_uncargo 20 = .ok (.bipush (-3), 2) := by decide +kernel
theorem dX4_uncargo_22 : decode cX4_uncargo 22 = .ok (.ireturn, 1) := by decide +kernel
theorem dX4_uncargo_23 : decode cX4_uncargo 23 = .ok (.aload_n 0, 1) := by decide +kernel
theorem dX4_uncargo_24 : decode cX4_uncargo 24 = .ok (.dup, 1) := by decide +kernel
theorem dX4_uncargo_25 : decode cX4_uncargo 25 = .ok (.getfield 92, 3) := by decide +kernel
theorem dX4_uncargo_28 : decode cX4_uncargo 28 = .ok (.iconst 1, 1) := by decide +kernel
theorem dX4_uncargo_29 : decode cX4_uncargo 29 = .ok (.isub, 1) := by decide +kernel
theorem dX4_uncargo_30 : decode cX4_uncargo 30 = .ok (.putfield 92, 3) := by decide +kernel
theorem dX4_uncargo_33 : decode cX4_uncargo 33 = .ok (.iconst 0, 1) := by decide +kernel
theorem dX4_uncargo_34 : decode cX4_uncargo 34 = .ok (.istore_n 1, 1) := by decide +kernel
theorem dX4_uncargo_35 : decode cX4_uncargo 35 = .ok (.iload_n 1, 1) := by decide +kernel
theorem dX4_uncargo_36 : decode cX4_uncargo 36 = .ok (.aload_n 0, 1) := by decide +kernel
theorem dX4_uncargo_37 : decode cX4_uncargo 37 = .ok (.getfield 75, 3) := by decide +kernel
theorem dX4_uncargo_40 : decode cX4_uncargo 40 = .ok (.if_icmp .ge 39, 3) := by decide +kernel
theorem dX4_uncargo_43 : decode cX4_uncargo 43 = .ok (.aload_n 0, 1) := by decide +kernel
theorem dX4_uncargo_44 : decode cX4_uncargo 44 = .ok (.getfield 25, 3) := by decide +kernel
theorem dX4_uncargo_47 : decode cX4_uncargo 47 = .ok (.iload_n 1, 1) := by decide +kernel
theorem dX4_uncargo_48 : decode cX4_uncargo 48 = .ok (.aload_n 0, 1) := by decide +kernel
theorem dX4_uncargo_49 : decode cX4_uncargo 49 = .ok (.getfield 25, 3) := by decide +kernel
theorem dX4_uncargo_52 : decode cX4_uncargo 52 = .ok (.iload_n 1, 1) := by decide +kernel
theorem dX4_uncargo_53 : decode cX4_uncargo 53 = .ok (.iaload, 1) := by decide +kernel
theorem dX4_uncargo_54 : decode cX4_uncargo 54 = .ok (.aload_n 0, 1) := by decide +kernel
theorem dX4_uncargo_55 : decode cX4_uncargo 55 = .ok (.getfield 92, 3) := by decide +kernel
theorem dX4_uncargo_58 : decode cX4_uncargo 58 = .ok (.if_icmp .ne 8, 3) := by decide +kernel
theorem dX4_uncargo_61 : decode cX4_uncargo 61 = .ok (.bipush (-9), 2) := by decide +kernel
theorem dX4_uncargo_63 : decode cX4_uncargo 63 = .ok (.goto 9, 3) := by decide +kernel
theorem dX4_uncargo_66 : decode cX4_uncargo 66 = .ok (.aload_n 0, 1) := by decide +kernel
theorem dX4_uncargo_67 : decode cX4_uncargo 67 = .ok (.getfield 25, 3) := by decide +kernel
theorem dX4_uncargo_70 : decode cX4_uncargo 70 = .ok (.iload_n 1, 1) := by decide +kernel
theorem dX4_uncargo_71 : decode cX4_uncargo 71 = .ok (.iaload, 1) := by decide +kernel
theorem dX4_uncargo_72 : decode cX4_uncargo 72 = .ok (.iastore, 1) := by decide +kernel
theorem dX4_uncargo_73 : decode cX4_uncargo 73 = .ok (.iinc 1 1, 3) := by decide +kernel
theorem dX4_uncargo_76 : decode cX4_uncargo 76 = .ok (.goto (-41), 3) := by decide +kernel
theorem dX4_uncargo_79 : decode cX4_uncargo 79 = .ok (.aload_n 0, 1) := by decide +kernel
theorem dX4_uncargo_80 : decode cX4_uncargo 80 = .ok (.getfield 92, 3) := by decide +kernel
theorem dX4_uncargo_83 : decode cX4_uncargo 83 = .ok (.ireturn, 1) := by decide +kernel
theorem dX4_amount_0 : decode cX4_amount 0 = .ok (.aload_n 0, 1) := by decide +kernel
theorem dX4_amount_1 : decode cX4_amount 1 = .ok (.iload_n 1, 1) := by decide +kernel
theorem dX4_amount_2 : decode cX4_amount 2 = .ok (.invokevirtual 102, 3) := by decide +kernel
theorem dX4_amount_5 : decode cX4_amount 5 = .ok (.ifCond .ne 5, 3) := by decide +kernel
theorem dX4_amount_8 : decode cX4_amount 8 = .ok (.iconst (-1), 1) := by decide +kernel
theorem dX4_amount_9 : decode cX4_amount 9 = .ok (.ireturn, 1) := by decide +kernel
theorem dX4_amount_10 : decode cX4_amount 10 = .ok (.iload_n 2, 1) := by decide +kernel
theorem dX4_amount_11 : decode cX4_amount 11 = .ok (.iconst 1, 1) := by decide +kernel
theorem dX4_amount_12 : decode cX4_amount 12 = .ok (.sipush 400, 3) := by decide +kernel
theorem dX4_amount_15 : decode cX4_amount 15 = .ok (.invokestatic 71, 3) := by decide +kernel
theorem dX4_amount_18 : decode cX4_amount 18 = .ok (.ifCond .ne 6, 3) := by decide +kernel
theorem dX4_amount_21 : decode cX4_amount 21 = .ok (.bipush (-2), 2) := by decide +kernel
theorem dX4_amount_23 : decode cX4_amount 23 = .ok (.ireturn, 1) := by decide +kernel
theorem dX4_amount_24 : decode cX4_amount 24 = .ok (.aload_n 0, 1) := by decide +kernel
theorem dX4_amount_25 : decode cX4_amount 25 = .ok (.iload_n 1, 1) := by decide +kernel
theorem dX4_amount_26 : decode cX4_amount 26 = .ok (.invokevirtual 98, 3) := by decide +kernel
theorem dX4_amount_29 : decode cX4_amount 29 = .ok (.ifCond .le 6, 3) := by decide +kernel
theorem dX4_amount_32 : decode cX4_amount 32 = .ok (.bipush (-3), 2) := by decide +kernel
theorem dX4_amount_34 : decode cX4_amount 34 = .ok (.ireturn, 1) := by decide +kernel
theorem dX4_amount_35 : decode cX4_amount 35 = .ok (.aload_n 0, 1) := by decide +kernel
theorem dX4_amount_36 : decode cX4_amount 36 = .ok (.getfield 37, 3) := by decide +kernel
theorem dX4_amount_39 : decode cX4_amount 39 = .ok (.iload_n 1, 1) := by decide +kernel
theorem dX4_amount_40 : decode cX4_amount 40 = .ok (.iaload, 1) := by decide +kernel
theorem dX4_amount_41 : decode cX4_amount 41 = .ok (.istore_n 3, 1) := by decide +kernel
theorem dX4_amount_42 : decode cX4_amount 42 = .ok (.aload_n 0, 1) := by decide +kernel
theorem dX4_amount_43 : decode cX4_amount 43 = .ok (.getfield 37, 3) := by decide +kernel
theorem dX4_amount_46 : decode cX4_amount 46 = .ok (.iload_n 1, 1) := by decide +kernel
theorem dX4_amount_47 : decode cX4_amount 47 = .ok (.iload_n 2, 1) := by decide +kernel
theorem dX4_amount_48 : decode cX4_amount 48 = .ok (.iastore, 1) := by decide +kernel
theorem dX4_amount_49 : decode cX4_amount 49 = .ok (.iload_n 3, 1) := by decide +kernel
theorem dX4_amount_50 : decode cX4_amount 50 = .ok (.ireturn, 1) := by decide +kernel
theorem dX4_washes_0 : decode cX4_washes 0 = .ok (.iload_n 1, 1) := by decide +kernel
theorem dX4_washes_1 : decode cX4_washes 1 = .ok (.invokestatic 89, 3) := by decide +kernel
theorem dX4_washes_4 : decode cX4_washes 4 = .ok (.ifCond .eq 10, 3) := by decide +kernel
theorem dX4_washes_7 : decode cX4_washes 7 = .ok (.iload_n 2, 1) := by decide +kernel
theorem dX4_washes_8 : decode cX4_washes 8 = .ok (.invokestatic 89, 3) := by decide +kernel
theorem dX4_washes_11 : decode cX4_washes 11 = .ok (.ifCond .ne 5, 3) := by decide +kernel
theorem dX4_washes_14 : decode cX4_washes 14 = .ok (.iconst (-1), 1) := by decide +kernel
theorem dX4_washes_15 : decode cX4_washes 15 = .ok (.ireturn, 1) := by decide +kernel
theorem dX4_washes_16 : decode cX4_washes 16 = .ok (.iload_n 3, 1) := by decide +kernel
theorem dX4_washes_17 : decode cX4_washes 17 = .ok (.iconst 0, 1) := by decide +kernel
theorem dX4_washes_18 : decode cX4_washes 18 = .ok (.iconst 3, 1) := by decide +kernel
theorem dX4_washes_19 : decode cX4_washes 19 = .ok (.invokestatic 71, 3) := by decide +kernel
theorem dX4_washes_22 : decode cX4_washes 22 = .ok (.ifCond .ne 6, 3) := by decide +kernel
theorem dX4_washes_25 : decode cX4_washes 25 = .ok (.bipush (-2), 2) := by decide +kernel
theorem dX4_washes_27 : decode cX4_washes 27 = .ok (.ireturn, 1) := by decide +kernel
theorem dX4_washes_28 : decode cX4_washes 28 = .ok (.aload_n 0, 1) := by decide +kernel
theorem dX4_washes_29 : decode cX4_washes 29 = .ok (.getfield 52, 3) := by decide +kernel
theorem dX4_washes_32 : decode cX4_washes 32 = .ok (.bipush 8, 2) := by decide +kernel
theorem dX4_washes_34 : decode cX4_washes 34 = .ok (.iload_n 1, 1) := by decide +kernel
theorem dX4_washes_35 : decode cX4_washes 35 = .ok (.imul, 1) := by decide +kernel
theorem dX4_washes_36 : decode cX4_washes 36 = .ok (.iload_n 2, 1) := by decide +kernel
theorem dX4_washes_37 : decode cX4_washes 37 = .ok (.iadd, 1) := by decide +kernel
theorem dX4_washes_38 : decode cX4_washes 38 = .ok (.iaload, 1) := by decide +kernel
theorem dX4_washes_39 : decode cX4_washes 39 = .ok (.istore 4, 2) := by decide +kernel
theorem dX4_washes_41 : decode cX4_washes 41 = .ok (.aload_n 0, 1) := by decide +kernel
theorem dX4_washes_42 : decode cX4_washes 42 = .ok (.getfield 52, 3) := by decide +kernel
theorem dX4_washes_45 : decode cX4_washes 45 = .ok (.bipush 8, 2) := by decide +kernel
theorem dX4_washes_47 : decode cX4_washes 47 = .ok (.iload_n 1, 1) := by decide +kernel
theorem dX4_washes_48 : decode cX4_washes 48 = .ok (.imul, 1) := by decide +kernel
theorem dX4_washes_49 : decode cX4_washes 49 = .ok (.iload_n 2, 1) := by decide +kernel
theorem dX4_washes_50 : decode cX4_washes 50 = .ok (.iadd, 1) := by decide +kernel
theorem dX4_washes_51 : decode cX4_washes 51 = .ok (.iload_n 3, 1) := by decide +kernel
theorem dX4_washes_52 : decode cX4_washes 52 = .ok (.iastore, 1) := by decide +kernel
theorem dX4_washes_53 : decode cX4_washes 53 = .ok (.iload 4, 2) := by decide +kernel
theorem dX4_washes_55 : decode cX4_washes 55 = .ok (.ireturn, 1) := by decide +kernel
theorem dX4_bound_0 : decode cX4_bound 0 = .ok (.iload_n 1, 1) := by decide +kernel
theorem dX4_bound_1 : decode cX4_bound 1 = .ok (.iconst 0, 1) := by decide +kernel
theorem dX4_bound_2 : decode cX4_bound 2 = .ok (.sipush 9999, 3) := by decide +kernel
theorem dX4_bound_5 : decode cX4_bound 5 = .ok (.invokestatic 71, 3) := by decide +kernel
theorem dX4_bound_8 : decode cX4_bound 8 = .ok (.ifCond .ne 6, 3) := by decide +kernel
theorem dX4_bound_11 : decode cX4_bound 11 = .ok (.bipush (-2), 2) := by decide +kernel
theorem dX4_bound_13 : decode cX4_bound 13 = .ok (.ireturn, 1) := by decide +kernel
theorem dX4_bound_14 : decode cX4_bound 14 = .ok (.aload_n 0, 1) := by decide +kernel
theorem dX4_bound_15 : decode cX4_bound 15 = .ok (.getfield 55, 3) := by decide +kernel
theorem dX4_bound_18 : decode cX4_bound 18 = .ok (.istore_n 2, 1) := by decide +kernel
theorem dX4_bound_19 : decode cX4_bound 19 = .ok (.aload_n 0, 1) := by decide +kernel
theorem dX4_bound_20 : decode cX4_bound 20 = .ok (.iload_n 1, 1) := by decide +kernel
theorem dX4_bound_21 : decode cX4_bound 21 = .ok (.putfield 55, 3) := by decide +kernel
theorem dX4_bound_24 : decode cX4_bound 24 = .ok (.iload_n 2, 1) := by decide +kernel
theorem dX4_bound_25 : decode cX4_bound 25 = .ok (.ireturn, 1) := by decide +kernel
theorem dX4_ofTank_0 : decode cX4_ofTank 0 = .ok (.aload_n 0, 1) := by decide +kernel
theorem dX4_ofTank_1 : decode cX4_ofTank 1 = .ok (.iload_n 1, 1) := by decide +kernel
theorem dX4_ofTank_2 : decode cX4_ofTank 2 = .ok (.invokevirtual 78, 3) := by decide +kernel
theorem dX4_ofTank_5 : decode cX4_ofTank 5 = .ok (.ifCond .ne 5, 3) := by decide +kernel
theorem dX4_ofTank_8 : decode cX4_ofTank 8 = .ok (.iconst (-1), 1) := by decide +kernel
theorem dX4_ofTank_9 : decode cX4_ofTank 9 = .ok (.ireturn, 1) := by decide +kernel
theorem dX4_ofTank_10 : decode cX4_ofTank 10 = .ok (.iload_n 2, 1) := by decide +kernel
theorem dX4_ofTank_11 : decode cX4_ofTank 11 = .ok (.tableswitch 107 0 8 #[49, 56, 63, 73, 80, 80, 80, 93, 100], 49) := by decide +kernel
theorem dX4_ofTank_60 : decode cX4_ofTank 60 = .ok (.aload_n 0, 1) := by decide +kernel
theorem dX4_ofTank_61 : decode cX4_ofTank 61 = .ok (.getfield 7, 3) := by decide +kernel
theorem dX4_ofTank_64 : decode cX4_ofTank 64 = .ok (.iload_n 1, 1) := by decide +kernel
theorem dX4_ofTank_65 : decode cX4_ofTank 65 = .ok (.iaload, 1) := by decide +kernel
theorem dX4_ofTank_66 : decode cX4_ofTank 66 = .ok (.ireturn, 1) := by decide +kernel
theorem dX4_ofTank_67 : decode cX4_ofTank 67 = .ok (.aload_n 0, 1) := by decide +kernel
theorem dX4_ofTank_68 : decode cX4_ofTank 68 = .ok (.getfield 13, 3) := by decide +kernel
theorem dX4_ofTank_71 : decode cX4_ofTank 71 = .ok (.iload_n 1, 1) := by decide +kernel
theorem dX4_ofTank_72 : decode cX4_ofTank 72 = .ok (.iaload, 1) := by decide +kernel
theorem dX4_ofTank_73 : decode cX4_ofTank 73 = .ok (.ireturn, 1) := by decide +kernel
theorem dX4_ofTank_74 : decode cX4_ofTank 74 = .ok (.aload_n 0, 1) := by decide +kernel
theorem dX4_ofTank_75 : decode cX4_ofTank 75 = .ok (.getfield 16, 3) := by decide +kernel
theorem dX4_ofTank_78 : decode cX4_ofTank 78 = .ok (.iload_n 1, 1) := by decide +kernel
theorem dX4_ofTank_79 : decode cX4_ofTank 79 = .ok (.iaload, 1) := by decide +kernel
theorem dX4_ofTank_80 : decode cX4_ofTank 80 = .ok (.bipush 10, 2) := by decide +kernel
theorem dX4_ofTank_82 : decode cX4_ofTank 82 = .ok (.iadd, 1) := by decide +kernel
theorem dX4_ofTank_83 : decode cX4_ofTank 83 = .ok (.ireturn, 1) := by decide +kernel
theorem dX4_ofTank_84 : decode cX4_ofTank 84 = .ok (.aload_n 0, 1) := by decide +kernel
theorem dX4_ofTank_85 : decode cX4_ofTank 85 = .ok (.getfield 19, 3) := by decide +kernel
theorem dX4_ofTank_88 : decode cX4_ofTank 88 = .ok (.iload_n 1, 1) := by decide +kernel
theorem dX4_ofTank_89 : decode cX4_ofTank 89 = .ok (.iaload, 1) := by decide +kernel
theorem dX4_ofTank_90 : decode cX4_ofTank 90 = .ok (.ireturn, 1) := by decide +kernel
theorem dX4_ofTank_91 : decode cX4_ofTank 91 = .ok (.aload_n 0, 1) := by decide +kernel
theorem dX4_ofTank_92 : decode cX4_ofTank 92 = .ok (.getfield 22, 3) := by decide +kernel
theorem dX4_ofTank_95 : decode cX4_ofTank 95 = .ok (.iconst 3, 1) := by decide +kernel
theorem dX4_ofTank_96 : decode cX4_ofTank 96 = .ok (.iload_n 1, 1) := by decide +kernel
theorem dX4_ofTank_97 : decode cX4_ofTank 97 = .ok (.imul, 1) := by decide +kernel
theorem dX4_ofTank_98 : decode cX4_ofTank 98 = .ok (.iload_n 2, 1) := by decide +kernel
theorem dX4_ofTank_99 : decode cX4_ofTank 99 = .ok (.iadd, 1) := by decide +kernel
theorem dX4_ofTank_100 : decode cX4_ofTank 100 = .ok (.iconst 4, 1) := by decide +kernel
theorem dX4_ofTank_101 : decode cX4_ofTank 101 = .ok (.isub, 1) := by decide +kernel
theorem dX4_ofTank_102 : decode cX4_ofTank 102 = .ok (.iaload, 1) := by decide +kernel
theorem dX4_ofTank_103 : decode cX4_ofTank 103 = .ok (.ireturn, 1) := by decide +kernel
theorem dX4_ofTank_104 : decode cX4_ofTank 104 = .ok (.aload_n 0, 1) := by decide +kernel
theorem dX4_ofTank_105 : decode cX4_ofTank 105 = .ok (.getfield 28, 3) := by decide +kernel
theorem dX4_ofTank_108 : decode cX4_ofTank 108 = .ok (.iload_n 1, 1) := by decide +kernel
theorem dX4_ofTank_109 : decode cX4_ofTank 109 = .ok (.iaload, 1) := by decide +kernel
theorem dX4_ofTank_110 : decode cX4_ofTank 110 = .ok (.ireturn, 1) := by decide +kernel
theorem dX4_ofTank_111 : decode cX4_ofTank 111 = .ok (.aload_n 0, 1) := by decide +kernel
theorem dX4_ofTank_112 : decode cX4_ofTank 112 = .ok (.getfield 31, 3) := by decide +kernel
theorem dX4_ofTank_115 : decode cX4_ofTank 115 = .ok (.iload_n 1, 1) := by decide +kernel
theorem dX4_ofTank_116 : decode cX4_ofTank 116 = .ok (.iaload, 1) := by decide +kernel
theorem dX4_ofTank_117 : decode cX4_ofTank 117 = .ok (.ireturn, 1) := by decide +kernel
theorem dX4_ofTank_118 : decode cX4_ofTank 118 = .ok (.bipush (-2), 2) := by decide +kernel
theorem dX4_ofTank_120 : decode cX4_ofTank 120 = .ok (.ireturn, 1) := by decide +kernel
theorem dX4_doClash_0 : decode cX4_doClash 0 = .ok (.aload_n 0, 1) := by decide +kernel
theorem dX4_doClash_1 : decode cX4_doClash 1 = .ok (.getfield 49, 3) := by decide +kernel
theorem dX4_doClash_4 : decode cX4_doClash 4 = .ok (.iload_n 1, 1) := by decide +kernel
theorem dX4_doClash_5 : decode cX4_doClash 5 = .ok (.iaload, 1) := by decide +kernel
theorem dX4_doClash_6 : decode cX4_doClash 6 = .ok (.aload_n 0, 1) := by decide +kernel
theorem dX4_doClash_7 : decode cX4_doClash 7 = .ok (.getfield 34, 3) := by decide +kernel
theorem dX4_doClash_10 : decode cX4_doClash 10 = .ok (.iload_n 2, 1) := by decide +kernel
theorem dX4_doClash_11 : decode cX4_doClash 11 = .ok (.iaload, 1) := by decide +kernel
theorem dX4_doClash_12 : decode cX4_doClash 12 = .ok (.invokestatic 86, 3) := by decide +kernel
theorem dX4_doClash_15 : decode cX4_doClash 15 = .ok (.ifCond .ne 21, 3) := by decide +kernel
theorem dX4_doClash_18 : decode cX4_doClash 18 = .ok (.aload_n 0, 1) := by decide +kernel
theorem dX4_doClash_19 : decode cX4_doClash 19 = .ok (.getfield 49, 3) := by decide +kernel
theorem dX4_doClash_22 : decode cX4_doClash 22 = .ok (.iload_n 2, 1) := by decide +kernel
theorem dX4_doClash_23 : decode cX4_doClash 23 = .ok (.iaload, 1) := by decide +kernel
theorem dX4_doClash_24 : decode cX4_doClash 24 = .ok (.aload_n 0, 1) := by decide +kernel
theorem dX4_doClash_25 : decode cX4_doClash 25 = .ok (.getfield 34, 3) := by decide +kernel
theorem dX4_doClash_28 : decode cX4_doClash 28 = .ok (.iload_n 1, 1) := by decide +kernel
theorem dX4_doClash_29 : decode cX4_doClash 29 = .ok (.iaload, 1) := by decide +kernel
theorem dX4_doClash_30 : decode cX4_doClash 30 = .ok (.invokestatic 86, 3) := by decide +kernel
theorem dX4_doClash_33 : decode cX4_doClash 33 = .ok (.ifCond .eq 7, 3) := by decide +kernel
theorem dX4_doClash_36 : decode cX4_doClash 36 = .ok (.iconst 1, 1) := by decide +kernel
theorem dX4_doClash_37 : decode cX4_doClash 37 = .ok (.goto 4, 3) := by decide +kernel
theorem dX4_doClash_40 : decode cX4_doClash 40 = .ok (.iconst 0, 1) := by decide +kernel
theorem dX4_doClash_41 : decode cX4_doClash 41 = .ok (.ireturn, 1) := by decide +kernel
theorem dX4_clashes_0 : decode cX4_clashes 0 = .ok (.iconst 0, 1) := by decide +kernel
theorem dX4_clashes_1 : decode cX4_clashes 1 = .ok (.istore_n 2, 1) := by decide +kernel
theorem dX4_clashes_2 : decode cX4_clashes 2 = .ok (.iconst 0, 1) := by decide +kernel
theorem dX4_clashes_3 : decode cX4_clashes 3 = .ok (.istore_n 3, 1) := by decide +kernel
theorem dX4_clashes_4 : decode cX4_clashes 4 = .ok (.iload_n 3, 1) := by decide +kernel
theorem dX4_clashes_5 : decode cX4_clashes 5 = .ok (.aload_n 0, 1) := by decide +kernel
theorem dX4_clashes_6 : decode cX4_clashes 6 = .ok (.getfield 92, 3) := by decide +kernel
theorem dX4_clashes_9 : decode cX4_clashes 9 = .ok (.if_icmp .ge 28, 3) := by decide +kernel
theorem dX4_clashes_12 : decode cX4_clashes 12 = .ok (.iload_n 2, 1) := by decide +kernel
theorem dX4_clashes_13 : decode cX4_clashes 13 = .ok (.aload_n 0, 1) := by decide +kernel
theorem dX4_clashes_14 : decode cX4_clashes 14 = .ok (.iload_n 1, 1) := by decide +kernel
theorem dX4_clashes_15 : decode cX4_clashes 15 = .ok (.iload_n 3, 1) := by decide +kernel
theorem dX4_clashes_16 : decode cX4_clashes 16 = .ok (.invokevirtual 105, 3) := by decide +kernel
theorem dX4_clashes_19 : decode cX4_clashes 19 = .ok (.ifCond .eq 9, 3) := by decide +kernel
theorem dX4_clashes_22 : decode cX4_clashes 22 = .ok (.iconst 1, 1) := by decide +kernel
theorem dX4_clashes_23 : decode cX4_clashes 23 = .ok (.iload_n 3, 1) := by decide +kernel
theorem dX4_clashes_24 : decode cX4_clashes 24 = .ok (.ishl, 1) := by decide +kernel
theorem dX4_clashes_25 : decode cX4_clashes 25 = .ok (.goto 4, 3) := by decide +kernel
theorem dX4_clashes_28 : decode cX4_clashes 28 = .ok (.iconst 0, 1) := by decide +kernel
theorem dX4_clashes_29 : decode cX4_clashes 29 = .ok (.ior, 1) := by decide +kernel
theorem dX4_clashes_30 : decode cX4_clashes 30 = .ok (.istore_n 2, 1) := by decide +kernel
theorem dX4_clashes_31 : decode cX4_clashes 31 = .ok (.iinc 3 1, 3) := by decide +kernel
theorem dX4_clashes_34 : decode cX4_clashes 34 = .ok (.goto (-30), 3) := by decide +kernel
theorem dX4_clashes_37 : decode cX4_clashes 37 = .ok (.iload_n 2, 1) := by decide +kernel
theorem dX4_clashes_38 : decode cX4_clashes 38 = .ok (.ireturn, 1) := by decide +kernel
theorem dX4_suited_0 : decode cX4_suited 0 = .ok (.iconst 0, 1) := by decide +kernel
theorem dX4_suited_1 : decode cX4_suited 1 = .ok (.istore_n 2, 1) := by decide +kernel
theorem dX4_suited_2 : decode cX4_suited 2 = .ok (.iconst 0, 1) := by decide +kernel
theorem dX4_suited_3 : decode cX4_suited 3 = .ok (.istore_n 3, 1) := by decide +kernel
theorem dX4_suited_4 : decode cX4_suited 4 = .ok (.iload_n 3, 1) := by decide +kernel
theorem dX4_suited_5 : decode cX4_suited 5 = .ok (.aload_n 0, 1) := by decide +kernel
theorem dX4_suited_6 : decode cX4_suited 6 = .ok (.getfield 75, 3) := by decide +kernel
theorem dX4_suited_9 : decode cX4_suited 9 = .ok (.if_icmp .ge 28, 3) := by decide +kernel
theorem dX4_suited_12 : decode cX4_suited 12 = .ok (.iload_n 2, 1) := by decide +kernel
theorem dX4_suited_13 : decode cX4_suited 13 = .ok (.aload_n 0, 1) := by decide +kernel
theorem dX4_suited_14 : decode cX4_suited 14 = .ok (.iload_n 3, 1) := by decide +kernel
theorem dX4_suited_15 : decode cX4_suited 15 = .ok (.iload_n 1, 1) := by decide +kernel
theorem dX4_suited_16 : decode cX4_suited 16 = .ok (.invokevirtual 108, 3) := by decide +kernel
theorem dX4_suited_19 : decode cX4_suited 19 = .ok (.ifCond .ne 9, 3) := by decide +kernel
theorem dX4_suited_22 : decode cX4_suited 22 = .ok (.iconst 1, 1) := by decide +kernel
theorem dX4_suited_23 : decode cX4_suited 23 = .ok (.iload_n 3, 1) := by decide +kernel
theorem dX4_suited_24 : decode cX4_suited 24 = .ok (.ishl, 1) := by decide +kernel
theorem dX4_suited_25 : decode cX4_suited 25 = .ok (.goto 4, 3) := by decide +kernel
theorem dX4_suited_28 : decode cX4_suited 28 = .ok (.iconst 0, 1) := by decide +kernel
theorem dX4_suited_29 : decode cX4_suited 29 = .ok (.ior, 1) := by decide +kernel
theorem dX4_suited_30 : decode cX4_suited 30 = .ok (.istore_n 2, 1) := by decide +kernel
theorem dX4_suited_31 : decode cX4_suited 31 = .ok (.iinc 3 1, 3) := by decide +kernel
theorem dX4_suited_34 : decode cX4_suited 34 = .ok (.goto (-30), 3) := by decide +kernel
theorem dX4_suited_37 : decode cX4_suited 37 = .ok (.iload_n 2, 1) := by decide +kernel
theorem dX4_suited_38 : decode cX4_suited 38 = .ok (.ireturn, 1) := by decide +kernel
theorem dX4_ofCargo_0 : decode cX4_ofCargo 0 = .ok (.aload_n 0, 1) := by decide +kernel
theorem dX4_ofCargo_1 : decode cX4_ofCargo 1 = .ok (.iload_n 1, 1) := by decide +kernel
theorem dX4_ofCargo_2 : decode cX4_ofCargo 2 = .ok (.invokevirtual 102, 3) := by decide +kernel
theorem dX4_ofCargo_5 : decode cX4_ofCargo 5 = .ok (.ifCond .ne 5, 3) := by decide +kernel
theorem dX4_ofCargo_8 : decode cX4_ofCargo 8 = .ok (.iconst (-1), 1) := by decide +kernel
theorem dX4_ofCargo_9 : decode cX4_ofCargo 9 = .ok (.ireturn, 1) := by decide +kernel
theorem dX4_ofCargo_10 : decode cX4_ofCargo 10 = .ok (.iload_n 2, 1) := by decide +kernel
theorem dX4_ofCargo_11 : decode cX4_ofCargo 11 = .ok (.tableswitch 99 0 7 #[45, 52, 59, 66, 73, 80, 87, 93], 45) := by decide +kernel
theorem dX4_ofCargo_56 : decode cX4_ofCargo 56 = .ok (.aload_n 0, 1) := by decide +kernel
theorem dX4_ofCargo_57 : decode cX4_ofCargo 57 = .ok (.getfield 34, 3) := by decide +kernel
theorem dX4_ofCargo_60 : decode cX4_ofCargo 60 = .ok (.iload_n 1, 1) := by decide +kernel
theorem dX4_ofCargo_61 : decode cX4_ofCargo 61 = .ok (.iaload, 1) := by decide +kernel
theorem dX4_ofCargo_62 : decode cX4_ofCargo 62 = .ok (.ireturn, 1) := by decide +kernel
theorem dX4_ofCargo_63 : decode cX4_ofCargo 63 = .ok (.aload_n 0, 1) := by decide +kernel
theorem dX4_ofCargo_64 : decode cX4_ofCargo 64 = .ok (.getfield 37, 3) := by decide +kernel
theorem dX4_ofCargo_67 : decode cX4_ofCargo 67 = .ok (.iload_n 1, 1) := by decide +kernel
theorem dX4_ofCargo_68 : decode cX4_ofCargo 68 = .ok (.iaload, 1) := by decide +kernel
theorem dX4_ofCargo_69 : decode cX4_ofCargo 69 = .ok (.ireturn, 1) := by decide +kernel
theorem dX4_ofCargo_70 : decode cX4_ofCargo 70 = .ok (.aload_n 0, 1) := by decide +kernel
theorem dX4_ofCargo_71 : decode cX4_ofCargo 71 = .ok (.getfield 40, 3) := by decide +kernel
theorem dX4_ofCargo_74 : decode cX4_ofCargo 74 = .ok (.iload_n 1, 1) := by decide +kernel
theorem dX4_ofCargo_75 : decode cX4_ofCargo 75 = .ok (.iaload, 1) := by decide +kernel
theorem dX4_ofCargo_76 : decode cX4_ofCargo 76 = .ok (.ireturn, 1) := by decide +kernel
theorem dX4_ofCargo_77 : decode cX4_ofCargo 77 = .ok (.aload_n 0, 1) := by decide +kernel
theorem dX4_ofCargo_78 : decode cX4_ofCargo 78 = .ok (.getfield 43, 3) := by decide +kernel
theorem dX4_ofCargo_81 : decode cX4_ofCargo 81 = .ok (.iload_n 1, 1) := by decide +kernel
theorem dX4_ofCargo_82 : decode cX4_ofCargo 82 = .ok (.iaload, 1) := by decide +kernel
theorem dX4_ofCargo_83 : decode cX4_ofCargo 83 = .ok (.ireturn, 1) := by decide +kernel
theorem dX4_ofCargo_84 : decode cX4_ofCargo 84 = .ok (.aload_n 0, 1) := by decide +kernel
theorem dX4_ofCargo_85 : decode cX4_ofCargo 85 = .ok (.getfield 46, 3) := by decide +kernel
theorem dX4_ofCargo_88 : decode cX4_ofCargo 88 = .ok (.iload_n 1, 1) := by decide +kernel
theorem dX4_ofCargo_89 : decode cX4_ofCargo 89 = .ok (.iaload, 1) := by decide +kernel
theorem dX4_ofCargo_90 : decode cX4_ofCargo 90 = .ok (.ireturn, 1) := by decide +kernel
theorem dX4_ofCargo_91 : decode cX4_ofCargo 91 = .ok (.aload_n 0, 1) := by decide +kernel
theorem dX4_ofCargo_92 : decode cX4_ofCargo 92 = .ok (.getfield 49, 3) := by decide +kernel
theorem dX4_ofCargo_95 : decode cX4_ofCargo 95 = .ok (.iload_n 1, 1) := by decide +kernel
theorem dX4_ofCargo_96 : decode cX4_ofCargo 96 = .ok (.iaload, 1) := by decide +kernel
theorem dX4_ofCargo_97 : decode cX4_ofCargo 97 = .ok (.ireturn, 1) := by decide +kernel
theorem dX4_ofCargo_98 : decode cX4_ofCargo 98 = .ok (.aload_n 0, 1) := by decide +kernel
theorem dX4_ofCargo_99 : decode cX4_ofCargo 99 = .ok (.iload_n 1, 1) := by decide +kernel
theorem dX4_ofCargo_100 : decode cX4_ofCargo 100 = .ok (.invokevirtual 112, 3) := by decide +kernel
theorem dX4_ofCargo_103 : decode cX4_ofCargo 103 = .ok (.ireturn, 1) := by decide +kernel
theorem dX4_ofCargo_104 : decode cX4_ofCargo 104 = .ok (.aload_n 0, 1) := by decide +kernel
theorem dX4_ofCargo_105 : decode cX4_ofCargo 105 = .ok (.iload_n 1, 1) := by decide +kernel
theorem dX4_ofCargo_106 : decode cX4_ofCargo 106 = .ok (.invokevirtual 115, 3) := by decide +kernel
theorem dX4_ofCargo_109 : decode cX4_ofCargo 109 = .ok (.ireturn, 1) := by decide +kernel
theorem dX4_ofCargo_110 : decode cX4_ofCargo 110 = .ok (.bipush (-2), 2) := by decide +kernel
theorem dX4_ofCargo_112 : decode cX4_ofCargo 112 = .ok (.ireturn, 1) := by decide +kernel
theorem dX4_washesFor_0 : decode cX4_washesFor 0 = .ok (.aload_n 0, 1) := by decide +kernel
theorem dX4_washesFor_1 : decode cX4_washesFor 1 = .ok (.getfield 22, 3) := by decide +kernel
theorem dX4_washesFor_4 : decode cX4_washesFor 4 = .ok (.iconst 3, 1) := by decide +kernel
theorem dX4_washesFor_5 : decode cX4_washesFor 5 = .ok (.iload_n 1, 1) := by decide +kernel
theorem dX4_washesFor_6 : decode cX4_washesFor 6 = .ok (.imul, 1) := by decide +kernel
theorem dX4_washesFor_7 : decode cX4_washesFor 7 = .ok (.iaload, 1) := by decide +kernel
theorem dX4_washesFor_8 : decode cX4_washesFor 8 = .ok (.istore_n 3, 1) := by decide +kernel
theorem dX4_washesFor_9 : decode cX4_washesFor 9 = .ok (.iload_n 3, 1) := by decide +kernel
theorem dX4_washesFor_10 : decode cX4_washesFor 10 = .ok (.bipush (-9), 2) := by decide +kernel
theorem dX4_washesFor_12 : decode cX4_washesFor 12 = .ok (.if_icmp .ne 7, 3) := by decide +kernel
theorem dX4_washesFor_15 : decode cX4_washesFor 15 = .ok (.iconst 0, 1) := by decide +kernel
theorem dX4_washesFor_16 : decode cX4_washesFor 16 = .ok (.goto 19, 3) := by decide +kernel
theorem dX4_washesFor_19 : decode cX4_washesFor 19 = .ok (.aload_n 0, 1) := by decide +kernel
theorem dX4_washesFor_20 : decode cX4_washesFor 20 = .ok (.getfield 52, 3) := by decide +kernel
theorem dX4_washesFor_23 : decode cX4_washesFor 23 = .ok (.bipush 8, 2) := by decide +kernel
theorem dX4_washesFor_25 : decode cX4_washesFor 25 = .ok (.iload_n 3, 1) := by decide +kernel
theorem dX4_washesFor_26 : decode cX4_washesFor 26 = .ok (.imul, 1) := by decide +kernel
theorem dX4_washesFor_27 : decode cX4_washesFor 27 = .ok (.aload_n 0, 1) := by decide +kernel
theorem dX4_washesFor_28 : decode cX4_washesFor 28 = .ok (.getfield 34, 3) := by decide +kernel
theorem dX4_washesFor_31 : decode cX4_washesFor 31 = .ok (.iload_n 2, 1) := by decide +kernel
theorem dX4_washesFor_32 : decode cX4_washesFor 32 = .ok (.iaload, 1) := by decide +kernel
theorem dX4_washesFor_33 : decode cX4_washesFor 33 = .ok (.iadd, 1) := by decide +kernel
theorem dX4_washesFor_34 : decode cX4_washesFor 34 = .ok (.iaload, 1) := by decide +kernel
theorem dX4_washesFor_35 : decode cX4_washesFor 35 = .ok (.ireturn, 1) := by decide +kernel
theorem dX4_needs_0 : decode cX4_needs 0 = .ok (.aload_n 0, 1) := by decide +kernel
theorem dX4_needs_1 : decode cX4_needs 1 = .ok (.iload_n 1, 1) := by decide +kernel
theorem dX4_needs_2 : decode cX4_needs 2 = .ok (.invokevirtual 78, 3) := by decide +kernel
theorem dX4_needs_5 : decode cX4_needs 5 = .ok (.ifCond .eq 20, 3) := by decide +kernel
theorem dX4_needs_8 : decode cX4_needs 8 = .ok (.aload_n 0, 1) := by decide +kernel
theorem dX4_needs_9 : decode cX4_needs 9 = .ok (.iload_n 2, 1) := by decide +kernel
theorem dX4_needs_10 : decode cX4_needs 10 = .ok (.invokevirtual 102, 3) := by decide +kernel
theorem dX4_needs_13 : decode cX4_needs 13 = .ok (.ifCond .eq 12, 3) := by decide +kernel
theorem dX4_needs_16 : decode cX4_needs 16 = .ok (.aload_n 0, 1) := by decide +kernel
theorem dX4_needs_17 : decode cX4_needs 17 = .ok (.iload_n 1, 1) := by decide +kernel
theorem dX4_needs_18 : decode cX4_needs 18 = .ok (.iload_n 2, 1) := by decide +kernel
theorem dX4_needs_19 : decode cX4_needs 19 = .ok (.invokevirtual 118, 3) := by decide +kernel
theorem dX4_needs_22 : decode cX4_needs 22 = .ok (.goto 4, 3) := by decide +kernel
theorem dX4_needs_25 : decode cX4_needs 25 = .ok (.iconst (-1), 1) := by decide +kernel
theorem dX4_needs_26 : decode cX4_needs 26 = .ok (.ireturn, 1) := by decide +kernel
theorem dX4_whyNot_0 : decode cX4_whyNot 0 = .ok (.aload_n 0, 1) := by decide +kernel
theorem dX4_whyNot_1 : decode cX4_whyNot 1 = .ok (.getfield 40, 3) := by decide +kernel
theorem dX4_whyNot_4 : decode cX4_whyNot 4 = .ok (.iload_n 2, 1) := by decide +kernel
theorem dX4_whyNot_5 : decode cX4_whyNot 5 = .ok (.iaload, 1) := by decide +kernel
theorem dX4_whyNot_6 : decode cX4_whyNot 6 = .ok (.aload_n 0, 1) := by decide +kernel
theorem dX4_whyNot_7 : decode cX4_whyNot 7 = .ok (.getfield 13, 3) := by decide +kernel
theorem dX4_whyNot_10 : decode cX4_whyNot 10 = .ok (.iload_n 1, 1) := by decide +kernel
theorem dX4_whyNot_11 : decode cX4_whyNot 11 = .ok (.iaload, 1) := by decide +kernel
theorem dX4_whyNot_12 : decode cX4_whyNot 12 = .ok (.invokestatic 86, 3) := by decide +kernel
theorem dX4_whyNot_15 : decode cX4_whyNot 15 = .ok (.ifCond .eq 7, 3) := by decide +kernel
theorem dX4_whyNot_18 : decode cX4_whyNot 18 = .ok (.iconst 0, 1) := by decide +kernel
theorem dX4_whyNot_19 : decode cX4_whyNot 19 = .ok (.goto 4, 3) := by decide +kernel
theorem dX4_whyNot_22 : decode cX4_whyNot 22 = .ok (.iconst 1, 1) := by decide +kernel
theorem dX4_whyNot_23 : decode cX4_whyNot 23 = .ok (.istore_n 3, 1) := by decide +kernel
theorem dX4_whyNot_24 : decode cX4_whyNot 24 = .ok (.iconst 0, 1) := by decide +kernel
theorem dX4_whyNot_25 : decode cX4_whyNot 25 = .ok (.istore 4, 2) := by decide +kernel
theorem dX4_whyNot_27 : decode cX4_whyNot 27 = .ok (.iload 4, 2) := by decide +kernel
theorem dX4_whyNot_29 : decode cX4_whyNot 29 = .ok (.iconst 3, 1) := by decide +kernel
theorem dX4_whyNot_30 : decode cX4_whyNot 30 = .ok (.if_icmp .ge 78, 3) := by decide +kernel
theorem dX4_whyNot_33 : decode cX4_whyNot 33 = .ok (.aload_n 0, 1) := by decide +kernel
theorem dX4_whyNot_34 : decode cX4_whyNot 34 = .ok (.getfield 22, 3) := by decide +kernel
theorem dX4_whyNot_37 : decode cX4_whyNot 37 = .ok (.iconst 3, 1) := by decide +kernel
theorem dX4_whyNot_38 : decode cX4_whyNot 38 = .ok (.iload_n 1, 1) := by decide +kernel
theorem dX4_whyNot_39 : decode cX4_whyNot 39 = .ok (.imul, 1) := by decide +kernel
theorem dX4_whyNot_40 : decode cX4_whyNot 40 = .ok (.iload 4, 2) := by decide +kernel
theorem dX4_whyNot_42 : decode cX4_whyNot 42 = .ok (.iadd, 1) := by decide +kernel
theorem dX4_whyNot_43 : decode cX4_whyNot 43 = .ok (.iaload, 1) := by decide +kernel
theorem dX4_whyNot_44 : decode cX4_whyNot 44 = .ok (.istore 5, 2) := by decide +kernel
theorem dX4_whyNot_46 : decode cX4_whyNot 46 = .ok (.iload 5, 2) := by decide +kernel
theorem dX4_whyNot_48 : decode cX4_whyNot 48 = .ok (.bipush (-9), 2) := by decide +kernel
theorem dX4_whyNot_50 : decode cX4_whyNot 50 = .ok (.if_icmp .eq 52, 3) := by decide +kernel
theorem dX4_whyNot_53 : decode cX4_whyNot 53 = .ok (.iload_n 3, 1) := by decide +kernel
theorem dX4_whyNot_54 : decode cX4_whyNot 54 = .ok (.iload 4, 2) := by decide +kernel
theorem dX4_whyNot_56 : decode cX4_whyNot 56 = .ok (.ifCond .ne 21, 3) := by decide +kernel
theorem dX4_whyNot_59 : decode cX4_whyNot 59 = .ok (.aload_n 0, 1) := by decide +kernel
theorem dX4_whyNot_60 : decode cX4_whyNot 60 = .ok (.getfield 43, 3) := by decide +kernel
theorem dX4_whyNot_63 : decode cX4_whyNot 63 = .ok (.iload_n 2, 1) := by decide +kernel
theorem dX4_whyNot_64 : decode cX4_whyNot 64 = .ok (.iaload, 1) := by decide +kernel
theorem dX4_whyNot_65 : decode cX4_whyNot 65 = .ok (.iload 5, 2) := by decide +kernel
theorem dX4_whyNot_67 : decode cX4_whyNot 67 = .ok (.invokestatic 86, 3) := by decide +kernel
theorem dX4_whyNot_70 : decode cX4_whyNot 70 = .ok (.ifCond .eq 7, 3) := by decide +kernel
theorem dX4_whyNot_73 : decode cX4_whyNot 73 = .ok (.iconst 2, 1) := by decide +kernel
theorem dX4_whyNot_74 : decode cX4_whyNot 74 = .ok (.goto 4, 3) := by decide +kernel
theorem dX4_whyNot_77 : decode cX4_whyNot 77 = .ok (.iconst 0, 1) := by decide +kernel
theorem dX4_whyNot_78 : decode cX4_whyNot 78 = .ok (.ior, 1) := by decide +kernel
theorem dX4_whyNot_79 : decode cX4_whyNot 79 = .ok (.istore_n 3, 1) := by decide +kernel
theorem dX4_whyNot_80 : decode cX4_whyNot 80 = .ok (.iload_n 3, 1) := by decide +kernel
theorem dX4_whyNot_81 : decode cX4_whyNot 81 = .ok (.aload_n 0, 1) := by decide +kernel
theorem dX4_whyNot_82 : decode cX4_whyNot 82 = .ok (.getfield 46, 3) := by decide +kernel
theorem dX4_whyNot_85 : decode cX4_whyNot 85 = .ok (.iload_n 2, 1) := by decide +kernel
theorem dX4_whyNot_86 : decode cX4_whyNot 86 = .ok (.iaload, 1) := by decide +kernel
theorem dX4_whyNot_87 : decode cX4_whyNot 87 = .ok (.iload 5, 2) := by decide +kernel
theorem dX4_whyNot_89 : decode cX4_whyNot 89 = .ok (.invokestatic 86, 3) := by decide +kernel
theorem dX4_whyNot_92 : decode cX4_whyNot 92 = .ok (.ifCond .eq 7, 3) := by decide +kernel
theorem dX4_whyNot_95 : decode cX4_whyNot 95 = .ok (.iconst 4, 1) := by decide +kernel
theorem dX4_whyNot_96 : decode cX4_whyNot 96 = .ok (.goto 4, 3) := by decide +kernel
theorem dX4_whyNot_99 : decode cX4_whyNot 99 = .ok (.iconst 0, 1) := by decide +kernel
theorem dX4_whyNot_100 : decode cX4_whyNot 100 = .ok (.ior, 1) := by decide +kernel
theorem dX4_whyNot_101 : decode cX4_whyNot 101 = .ok (.istore_n 3, 1) := by decide +kernel
theorem dX4_whyNot_102 : decode cX4_whyNot 102 = .ok (.iinc 4 1, 3) := by decide +kernel
theorem dX4_whyNot_105 : decode cX4_whyNot 105 = .ok (.goto (-78), 3) := by decide +kernel
theorem dX4_whyNot_108 : decode cX4_whyNot 108 = .ok (.iload_n 3, 1) := by decide +kernel
theorem dX4_whyNot_109 : decode cX4_whyNot 109 = .ok (.ireturn, 1) := by decide +kernel
theorem dX4_why_0 : decode cX4_why 0 = .ok (.aload_n 0, 1) := by decide +kernel
theorem dX4_why_1 : decode cX4_why 1 = .ok (.iload_n 1, 1) := by decide +kernel
theorem dX4_why_2 : decode cX4_why 2 = .ok (.invokevirtual 78, 3) := by decide +kernel
theorem dX4_why_5 : decode cX4_why 5 = .ok (.ifCond .eq 20, 3) := by decide +kernel
theorem dX4_why_8 : decode cX4_why 8 = .ok (.aload_n 0, 1) := by decide +kernel
theorem dX4_why_9 : decode cX4_why 9 = .ok (.iload_n 2, 1) := by decide +kernel
theorem dX4_why_10 : decode cX4_why 10 = .ok (.invokevirtual 102, 3) := by decide +kernel
theorem dX4_why_13 : decode cX4_why 13 = .ok (.ifCond .eq 12, 3) := by decide +kernel
theorem dX4_why_16 : decode cX4_why 16 = .ok (.aload_n 0, 1) := by decide +kernel
theorem dX4_why_17 : decode cX4_why 17 = .ok (.iload_n 1, 1) := by decide +kernel
theorem dX4_why_18 : decode cX4_why 18 = .ok (.iload_n 2, 1) := by decide +kernel
theorem dX4_why_19 : decode cX4_why 19 = .ok (.invokevirtual 108, 3) := by decide +kernel
theorem dX4_why_22 : decode cX4_why 22 = .ok (.goto 4, 3) := by decide +kernel
theorem dX4_why_25 : decode cX4_why 25 = .ok (.iconst (-1), 1) := by decide +kernel
theorem dX4_why_26 : decode cX4_why 26 = .ok (.ireturn, 1) := by decide +kernel
theorem dX4_isSetOfCargoes_0 : decode cX4_isSetOfCargoes 0 = .ok (.iload_n 1, 1) := by decide +kernel
theorem dX4_isSetOfCargoes_1 : decode cX4_isSetOfCargoes 1 = .ok (.iconst 0, 1) := by decide +kernel
theorem dX4_isSetOfCargoes_2 : decode cX4_isSetOfCargoes 2 = .ok (.iconst 1, 1) := by decide +kernel
theorem dX4_isSetOfCargoes_3 : decode cX4_isSetOfCargoes 3 = .ok (.aload_n 0, 1) := by decide +kernel
theorem dX4_isSetOfCargoes_4 : decode cX4_isSetOfCargoes 4 = .ok (.getfield 92, 3) := by decide +kernel
theorem dX4_isSetOfCargoes_7 : decode cX4_isSetOfCargoes 7 = .ok (.ishl, 1) := by decide +kernel
theorem dX4_isSetOfCargoes_8 : decode cX4_isSetOfCargoes 8 = .ok (.iconst 1, 1) := by decide +kernel
theorem dX4_isSetOfCargoes_9 : decode cX4_isSetOfCargoes 9 = .ok (.isub, 1) := by decide +kernel
theorem dX4_isSetOfCargoes_10 : decode cX4_isSetOfCargoes 10 = .ok (.invokestatic 71, 3) := by decide +kernel
theorem dX4_isSetOfCargoes_13 : decode cX4_isSetOfCargoes 13 = .ok (.ireturn, 1) := by decide +kernel
theorem dX4_plan_0 : decode cX4_plan 0 = .ok (.aload_n 0, 1) := by decide +kernel
theorem dX4_plan_1 : decode cX4_plan 1 = .ok (.iload_n 1, 1) := by decide +kernel
theorem dX4_plan_2 : decode cX4_plan 2 = .ok (.invokevirtual 78, 3) := by decide +kernel
theorem dX4_plan_5 : decode cX4_plan 5 = .ok (.ifCond .eq 17, 3) := by decide +kernel
theorem dX4_plan_8 : decode cX4_plan 8 = .ok (.iload_n 2, 1) := by decide +kernel
theorem dX4_plan_9 : decode cX4_plan 9 = .ok (.bipush (-9), 2) := by decide +kernel
theorem dX4_plan_11 : decode cX4_plan 11 = .ok (.if_icmp .eq 13, 3) := by decide +kernel
theorem dX4_plan_14 : decode cX4_plan 14 = .ok (.aload_n 0, 1) := by decide +kernel
theorem dX4_plan_15 : decode cX4_plan 15 = .ok (.iload_n 2, 1) := by decide +kernel
theorem dX4_plan_16 : decode cX4_plan 16 = .ok (.invokevirtual 102, 3) := by decide +kernel
theorem dX4_plan_19 : decode cX4_plan 19 = .ok (.ifCond .ne 5, 3) := by decide +kernel
theorem dX4_plan_22 : decode cX4_plan 22 = .ok (.iconst (-1), 1) := by decide +kernel
theorem dX4_plan_23 : decode cX4_plan 23 = .ok (.ireturn, 1) := by decide +kernel
theorem dX4_plan_24 : decode cX4_plan 24 = .ok (.aload_n 0, 1) := by decide +kernel
theorem dX4_plan_25 : decode cX4_plan 25 = .ok (.getfield 25, 3) := by decide +kernel
theorem dX4_plan_28 : decode cX4_plan 28 = .ok (.iload_n 1, 1) := by decide +kernel
theorem dX4_plan_29 : decode cX4_plan 29 = .ok (.iaload, 1) := by decide +kernel
theorem dX4_plan_30 : decode cX4_plan 30 = .ok (.istore_n 3, 1) := by decide +kernel
theorem dX4_plan_31 : decode cX4_plan 31 = .ok (.aload_n 0, 1) := by decide +kernel
theorem dX4_plan_32 : decode cX4_plan 32 = .ok (.getfield 25, 3) := by decide +kernel
theorem dX4_plan_35 : decode cX4_plan 35 = .ok (.iload_n 1, 1) := by decide +kernel
theorem dX4_plan_36 : decode cX4_plan 36 = .ok (.iload_n 2, 1) := by decide +kernel
theorem dX4_plan_37 : decode cX4_plan 37 = .ok (.iastore, 1) := by decide +kernel
theorem dX4_plan_38 : decode cX4_plan 38 = .ok (.iload_n 3, 1) := by decide +kernel
theorem dX4_plan_39 : decode cX4_plan 39 = .ok (.ireturn, 1) := by decide +kernel
theorem dX4_triesPlan_0 : decode cX4_triesPlan 0 = .ok (.iconst 0, 1) := by decide +kernel
theorem dX4_triesPlan_1 : decode cX4_triesPlan 1 = .ok (.istore_n 1, 1) := by decide +kernel
theorem dX4_triesPlan_2 : decode cX4_triesPlan 2 = .ok (.iload_n 1, 1) := by decide +kernel
theorem dX4_triesPlan_3 : decode cX4_triesPlan 3 = .ok (.aload_n 0, 1) := by decide +kernel
theorem dX4_triesPlan_4 : decode cX4_triesPlan 4 = .ok (.getfield 75, 3) := by decide +kernel
theorem dX4_triesPlan_7 : decode cX4_triesPlan 7 = .ok (.if_icmp .ge 21, 3) := by decide +kernel
theorem dX4_triesPlan_10 : decode cX4_triesPlan 10 = .ok (.aload_n 0, 1) := by decide +kernel
theorem dX4_triesPlan_11 : decode cX4_triesPlan 11 = .ok (.getfield 59, 3) := by decide +kernel
theorem dX4_triesPlan_14 : decode cX4_triesPlan 14 = .ok (.iload_n 1, 1) := by decide +kernel
theorem dX4_triesPlan_15 : decode cX4_triesPlan 15 = .ok (.aload_n 0, 1) := by decide +kernel
theorem dX4_triesPlan_16 : decode cX4_triesPlan 16 = .ok (.getfield 25, 3) := by decide +kernel
theorem dX4_triesPlan_19 : decode cX4_triesPlan 19 = .ok (.iload_n 1, 1) := by decide +kernel
theorem dX4_triesPlan_20 : decode cX4_triesPlan 20 = .ok (.iaload, 1) := by decide +kernel
theorem dX4_triesPlan_21 : decode cX4_triesPlan 21 = .ok (.iastore, 1) := by decide +kernel
theorem dX4_triesPlan_22 : decode cX4_triesPlan 22 = .ok (.iinc 1 1, 3) := by decide +kernel
theorem dX4_triesPlan_25 : decode cX4_triesPlan 25 = .ok (.goto (-23), 3) := by decide +kernel
theorem dX4_triesPlan_28 : decode cX4_triesPlan 28 = .ok (.return_, 1) := by decide +kernel
theorem dX4_fills_0 : decode cX4_fills 0 = .ok (.iconst 0, 1) := by decide +kernel
theorem dX4_fills_1 : decode cX4_fills 1 = .ok (.istore_n 1, 1) := by decide +kernel
theorem dX4_fills_2 : decode cX4_fills 2 = .ok (.iload_n 1, 1) := by decide +kernel
theorem dX4_fills_3 : decode cX4_fills 3 = .ok (.aload_n 0, 1) := by decide +kernel
theorem dX4_fills_4 : decode cX4_fills 4 = .ok (.getfield 75, 3) := by decide +kernel
theorem dX4_fills_7 : decode cX4_fills 7 = .ok (.if_icmp .ge 16, 3) := by decide +kernel
theorem dX4_fills_10 : decode cX4_fills 10 = .ok (.aload_n 0, 1) := by decide +kernel
theorem dX4_fills_11 : decode cX4_fills 11 = .ok (.getfield 62, 3) := by decide +kernel
theorem dX4_fills_14 : decode cX4_fills 14 = .ok (.iload_n 1, 1) := by decide +kernel
theorem dX4_fills_15 : decode cX4_fills 15 = .ok (.iconst 0, 1) := by decide +kernel
theorem dX4_fills_16 : decode cX4_fills 16 = .ok (.iastore, 1) := by decide +kernel
theorem dX4_fills_17 : decode cX4_fills 17 = .ok (.iinc 1 1, 3) := by decide +kernel
theorem dX4_fills_20 : decode cX4_fills 20 = .ok (.goto (-18), 3) := by decide +kernel
theorem dX4_fills_23 : decode cX4_fills 23 = .ok (.iconst 0, 1) := by decide +kernel
theorem dX4_fills_24 : decode cX4_fills 24 = .ok (.istore_n 1, 1) := by decide +kernel
theorem dX4_fills_25 : decode cX4_fills 25 = .ok (.iload_n 1, 1) := by decide +kernel
theorem dX4_fills_26 : decode cX4_fills 26 = .ok (.aload_n 0, 1) := by decide +kernel
theorem dX4_fills_27 : decode cX4_fills 27 = .ok (.getfield 92, 3) := by decide +kernel
theorem dX4_fills_30 : decode cX4_fills 30 = .ok (.if_icmp .ge 77, 3) := by decide +kernel
theorem dX4_fills_33 : decode cX4_fills 33 = .ok (.aload_n 0, 1) := by decide +kernel
theorem dX4_fills_34 : decode cX4_fills 34 = .ok (.getfield 37, 3) := by decide +kernel
theorem dX4_fills_37 : decode cX4_fills 37 = .ok (.iload_n 1, 1) := by decide +kernel
theorem dX4_fills_38 : decode cX4_fills 38 = .ok (.iaload, 1) := by decide +kernel
theorem dX4_fills_39 : decode cX4_fills 39 = .ok (.istore_n 2, 1) := by decide +kernel
theorem dX4_fills_40 : decode cX4_fills 40 = .ok (.iconst 0, 1) := by decide +kernel
theorem dX4_fills_41 : decode cX4_fills 41 = .ok (.istore_n 3, 1) := by decide +kernel
theorem dX4_fills_42 : decode cX4_fills 42 = .ok (.iload_n 3, 1) := by decide +kernel
theorem dX4_fills_43 : decode cX4_fills 43 = .ok (.aload_n 0, 1) := by decide +kernel
theorem dX4_fills_44 : decode cX4_fills 44 = .ok (.getfield 75, 3) := by decide +kernel
theorem dX4_fills_47 : decode cX4_fills 47 = .ok (.if_icmp .ge 54, 3) := by decide +kernel
theorem dX4_fills_50 : decode cX4_fills 50 = .ok (.aload_n 0, 1) := by decide +kernel
theorem dX4_fills_51 : decode cX4_fills 51 = .ok (.getfield 59, 3) := by decide +kernel
theorem dX4_fills_54 : decode cX4_fills 54 = .ok (.iload_n 3, 1) := by decide +kernel
theorem dX4_fills_55 : decode cX4_fills 55 = .ok (.iaload, 1) := by decide +kernel
theorem dX4_fills_56 : decode cX4_fills 56 = .ok (.iload_n 1, 1) := by decide +kernel
theorem dX4_fills_57 : decode cX4_fills 57 = .ok (.if_icmp .ne 38, 3) := by decide +kernel
theorem dX4_fills_60 : decode cX4_fills 60 = .ok (.aload_n 0, 1) := by decide +kernel
theorem dX4_fills_61 : decode cX4_fills 61 = .ok (.getfield 62, 3) := by decide +kernel
theorem dX4_fills_64 : decode cX4_fills 64 = .ok (.iload_n 3, 1) := by decide +kernel
theorem dX4_fills_65 : decode cX4_fills 65 = .ok (.iload_n 2, 1) := by decide +kernel
theorem dX4_fills_66 : decode cX4_fills 66 = .ok (.aload_n 0, 1) := by decide +kernel
theorem dX4_fills_67 : decode cX4_fills 67 = .ok (.getfield 7, 3) := by decide +kernel
theorem dX4_fills_70 : decode cX4_fills 70 = .ok (.iload_n 3, 1) := by decide +kernel
theorem dX4_fills_71 : decode cX4_fills 71 = .ok (.iaload, 1) := by decide +kernel
theorem dX4_fills_72 : decode cX4_fills 72 = .ok (.if_icmp .ge 7, 3) := by decide +kernel
theorem dX4_fills_75 : decode cX4_fills 75 = .ok (.iload_n 2, 1) := by decide +kernel
theorem dX4_fills_76 : decode cX4_fills 76 = .ok (.goto 9, 3) := by decide +kernel
theorem dX4_fills_79 : decode cX4_fills 79 = .ok (.aload_n 0, 1) := by decide +kernel
theorem dX4_fills_80 : decode cX4_fills 80 = .ok (.getfield 7, 3) := by decide +kernel
theorem dX4_fills_83 : decode cX4_fills 83 = .ok (.iload_n 3, 1) := by decide +kernel
theorem dX4_fills_84 : decode cX4_fills 84 = .ok (.iaload, 1) := by decide +kernel
theorem dX4_fills_85 : decode cX4_fills 85 = .ok (.iastore, 1) := by decide +kernel
theorem dX4_fills_86 : decode cX4_fills 86 = .ok (.iload_n 2, 1) := by decide +kernel
theorem dX4_fills_87 : decode cX4_fills 87 = .ok (.aload_n 0, 1) := by decide +kernel
theorem dX4_fills_88 : decode cX4_fills 88 = .ok (.getfield 62, 3) := by decide +kernel
theorem dX4_fills_91 : decode cX4_fills 91 = .ok (.iload_n 3, 1) := by decide +kernel
theorem dX4_fills_92 : decode cX4_fills 92 = .ok (.iaload, 1) := by decide +kernel
theorem dX4_fills_93 : decode cX4_fills 93 = .ok (.isub, 1) := by decide +kernel
theorem dX4_fills_94 : decode cX4_fills 94 = .ok (.istore_n 2, 1) := by decide +kernel
theorem dX4_fills_95 : decode cX4_fills 95 = .ok (.iinc 3 1, 3) := by decide +kernel
theorem dX4_fills_98 : decode cX4_fills 98 = .ok (.goto (-56), 3) := by decide +kernel
theorem dX4_fills_101 : decode cX4_fills 101 = .ok (.iinc 1 1, 3) := by decide +kernel
theorem dX4_fills_104 : decode cX4_fills 104 = .ok (.goto (-79), 3) := by decide +kernel
theorem dX4_fills_107 : decode cX4_fills 107 = .ok (.return_, 1) := by decide +kernel
theorem dX4_listOf_0 : decode cX4_listOf 0 = .ok (.iconst 0, 1) := by decide +kernel
theorem dX4_listOf_1 : decode cX4_listOf 1 = .ok (.istore_n 1, 1) := by decide +kernel
theorem dX4_listOf_2 : decode cX4_listOf 2 = .ok (.iconst 0, 1) := by decide +kernel
theorem dX4_listOf_3 : decode cX4_listOf 3 = .ok (.istore_n 2, 1) := by decide +kernel
theorem dX4_listOf_4 : decode cX4_listOf 4 = .ok (.iload_n 2, 1) := by decide +kernel
theorem dX4_listOf_5 : decode cX4_listOf 5 = .ok (.aload_n 0, 1) := by decide +kernel
theorem dX4_listOf_6 : decode cX4_listOf 6 = .ok (.getfield 75, 3) := by decide +kernel
theorem dX4_listOf_9 : decode cX4_listOf 9 = .ok (.if_icmp .ge 25, 3) := by decide +kernel
theorem dX4_listOf_12 : decode cX4_listOf 12 = .ok (.iload_n 1, 1) := by decide +kernel
theorem dX4_listOf_13 : decode cX4_listOf 13 = .ok (.aload_n 0, 1) := by decide +kernel
theorem dX4_listOf_14 : decode cX4_listOf 14 = .ok (.getfield 62, 3) := by decide +kernel
theorem dX4_listOf_17 : decode cX4_listOf 17 = .ok (.iload_n 2, 1) := by decide +kernel
theorem dX4_listOf_18 : decode cX4_listOf 18 = .ok (.iaload, 1) := by decide +kernel
theorem dX4_listOf_19 : decode cX4_listOf 19 = .ok (.aload_n 0, 1) := by decide +kernel
theorem dX4_listOf_20 : decode cX4_listOf 20 = .ok (.getfield 16, 3) := by decide +kernel
theorem dX4_listOf_23 : decode cX4_listOf 23 = .ok (.iload_n 2, 1) := by decide +kernel
theorem dX4_listOf_24 : decode cX4_listOf 24 = .ok (.iaload, 1) := by decide +kernel
theorem dX4_listOf_25 : decode cX4_listOf 25 = .ok (.imul, 1) := by decide +kernel
theorem dX4_listOf_26 : decode cX4_listOf 26 = .ok (.iadd, 1) := by decide +kernel
theorem dX4_listOf_27 : decode cX4_listOf 27 = .ok (.istore_n 1, 1) := by decide +kernel
theorem dX4_listOf_28 : decode cX4_listOf 28 = .ok (.iinc 2 1, 3) := by decide +kernel
theorem dX4_listOf_31 : decode cX4_listOf 31 = .ok (.goto (-27), 3) := by decide +kernel
theorem dX4_listOf_34 : decode cX4_listOf 34 = .ok (.iload_n 1, 1) := by decide +kernel
theorem dX4_listOf_35 : decode cX4_listOf 35 = .ok (.ireturn, 1) := by decide +kernel
theorem dX4_hasOther_0 : decode cX4_hasOther 0 = .ok (.iconst 0, 1) := by decide +kernel
theorem dX4_hasOther_1 : decode cX4_hasOther 1 = .ok (.istore_n 2, 1) := by decide +kernel
theorem dX4_hasOther_2 : decode cX4_hasOther 2 = .ok (.iconst 0, 1) := by decide +kernel
theorem dX4_hasOther_3 : decode cX4_hasOther 3 = .ok (.istore_n 3, 1) := by decide +kernel
theorem dX4_hasOther_4 : decode cX4_hasOther 4 = .ok (.iload_n 3, 1) := by decide +kernel
theorem dX4_hasOther_5 : decode cX4_hasOther 5 = .ok (.aload_n 0, 1) := by decide +kernel
theorem dX4_hasOther_6 : decode cX4_hasOther 6 = .ok (.getfield 75, 3) := by decide +kernel
theorem dX4_hasOther_9 : decode cX4_hasOther 9 = .ok (.if_icmp .ge 43, 3) := by decide +kernel
theorem dX4_hasOther_12 : decode cX4_hasOther 12 = .ok (.iload_n 2, 1) := by decide +kernel
theorem dX4_hasOther_13 : decode cX4_hasOther 13 = .ok (.ifCond .ne 27, 3) := by decide +kernel
theorem dX4_hasOther_16 : decode cX4_hasOther 16 = .ok (.aload_n 0, 1) := by decide +kernel
theorem dX4_hasOther_17 : decode cX4_hasOther 17 = .ok (.getfield 59, 3) := by decide +kernel
theorem dX4_hasOther_20 : decode cX4_hasOther 20 = .ok (.iload_n 3, 1) := by decide +kernel
theorem dX4_hasOther_21 : decode cX4_hasOther 21 = .ok (.iaload, 1) := by decide +kernel
theorem dX4_hasOther_22 : decode cX4_hasOther 22 = .ok (.bipush (-9), 2) := by decide +kernel
theorem dX4_hasOther_24 : decode cX4_hasOther 24 = .ok (.if_icmp .eq 20, 3) := by decide +kernel
theorem dX4_hasOther_27 : decode cX4_hasOther 27 = .ok (.iload_n 1, 1) := by decide +kernel
theorem dX4_hasOther_28 : decode cX4_hasOther 28 = .ok (.aload_n 0, 1) := by decide +kernel
theorem dX4_hasOther_29 : decode cX4_hasOther 29 = .ok (.getfield 59, 3) := by decide +kernel
theorem dX4_hasOther_32 : decode cX4_hasOther 32 = .ok (.iload_n 3, 1) := by decide +kernel
theorem dX4_hasOther_33 : decode cX4_hasOther 33 = .ok (.iaload, 1) := by decide +kernel
theorem dX4_hasOther_34 : decode cX4_hasOther 34 = .ok (.invokestatic 86, 3) := by decide +kernel
theorem dX4_hasOther_37 : decode cX4_hasOther 37 = .ok (.ifCond .ne 7, 3) := by decide +kernel
theorem dX4_hasOther_40 : decode cX4_hasOther 40 = .ok (.iconst 1, 1) := by decide +kernel
theorem dX4_hasOther_41 : decode cX4_hasOther 41 = .ok (.goto 4, 3) := by decide +kernel
theorem dX4_hasOther_44 : decode cX4_hasOther 44 = .ok (.iconst 0, 1) := by decide +kernel
theorem dX4_hasOther_45 : decode cX4_hasOther 45 = .ok (.istore_n 2, 1) := by decide +kernel
theorem dX4_hasOther_46 : decode cX4_hasOther 46 = .ok (.iinc 3 1, 3) := by decide +kernel
theorem dX4_hasOther_49 : decode cX4_hasOther 49 = .ok (.goto (-45), 3) := by decide +kernel
theorem dX4_hasOther_52 : decode cX4_hasOther 52 = .ok (.iload_n 2, 1) := by decide +kernel
theorem dX4_hasOther_53 : decode cX4_hasOther 53 = .ok (.ireturn, 1) := by decide +kernel
theorem dX4_hasUnfit_0 : decode cX4_hasUnfit 0 = .ok (.iconst 0, 1) := by decide +kernel
theorem dX4_hasUnfit_1 : decode cX4_hasUnfit 1 = .ok (.istore_n 1, 1) := by decide +kernel
theorem dX4_hasUnfit_2 : decode cX4_hasUnfit 2 = .ok (.iconst 0, 1) := by decide +kernel
theorem dX4_hasUnfit_3 : decode cX4_hasUnfit 3 = .ok (.istore_n 2, 1) := by decide +kernel
