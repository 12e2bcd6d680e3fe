theorem dX7_init_0 : decode cX7_init 0 = .ok (.aload_n 0, 1) := by decide +kernel
theorem dX7_init_1 : decode cX7_init 1 = .ok (.invokespecial 1, 3) := by decide +kernel
theorem dX7_init_4 : decode cX7_init 4 = .ok (.aload_n 0, 1) := by decide +kernel
theorem dX7_init_5 : decode cX7_init 5 = .ok (.bipush 79, 2) := by decide +kernel
theorem dX7_init_7 : decode cX7_init 7 = .ok (.newarray .int, 2) := by decide +kernel
theorem dX7_init_9 : decode cX7_init 9 = .ok (.putfield 7, 3) := by decide +kernel
theorem dX7_init_12 : decode cX7_init 12 = .ok (.aload_n 0, 1) := by decide +kernel
theorem dX7_init_13 : decode cX7_init 13 = .ok (.sipush 474, 3) := by decide +kernel
theorem dX7_init_16 : decode cX7_init 16 = .ok (.newarray .int, 2) := by decide +kernel
theorem dX7_init_18 : decode cX7_init 18 = .ok (.putfield 13, 3) := by decide +kernel
theorem dX7_init_21 : decode cX7_init 21 = .ok (.aload_n 0, 1) := by decide +kernel
theorem dX7_init_22 : decode cX7_init 22 = .ok (.sipush 158, 3) := by decide +kernel
theorem dX7_init_25 : decode cX7_init 25 = .ok (.newarray .int, 2) := by decide +kernel
theorem dX7_init_27 : decode cX7_init 27 = .ok (.putfield 16, 3) := by decide +kernel
theorem dX7_init_30 : decode cX7_init 30 = .ok (.aload_n 0, 1) := by decide +kernel
theorem dX7_init_31 : decode cX7_init 31 = .ok (.iconst 2, 1) := by decide +kernel
theorem dX7_init_32 : decode cX7_init 32 = .ok (.newarray .boolean, 2) := by decide +kernel
theorem dX7_init_34 : decode cX7_init 34 = .ok (.putfield 19, 3) := by decide +kernel
theorem dX7_init_37 : decode cX7_init 37 = .ok (.aload_n 0, 1) := by decide +kernel
theorem dX7_init_38 : decode cX7_init 38 = .ok (.bipush 6, 2) := by decide +kernel
theorem dX7_init_40 : decode cX7_init 40 = .ok (.newarray .int, 2) := by decide +kernel
theorem dX7_init_42 : decode cX7_init 42 = .ok (.putfield 23, 3) := by decide +kernel
theorem dX7_init_45 : decode cX7_init 45 = .ok (.aload_n 0, 1) := by decide +kernel
theorem dX7_init_46 : decode cX7_init 46 = .ok (.bipush 60, 2) := by decide +kernel
theorem dX7_init_48 : decode cX7_init 48 = .ok (.newarray .int, 2) := by decide +kernel
theorem dX7_init_50 : decode cX7_init 50 = .ok (.putfield 26, 3) := by decide +kernel
theorem dX7_init_53 : decode cX7_init 53 = .ok (.aload_n 0, 1) := by decide +kernel
theorem dX7_init_54 : decode cX7_init 54 = .ok (.bipush 112, 2) := by decide +kernel
theorem dX7_init_56 : decode cX7_init 56 = .ok (.newarray .int, 2) := by decide +kernel
theorem dX7_init_58 : decode cX7_init 58 = .ok (.putfield 29, 3) := by decide +kernel
theorem dX7_init_61 : decode cX7_init 61 = .ok (.aload_n 0, 1) := by decide +kernel
theorem dX7_init_62 : decode cX7_init 62 = .ok (.bipush 112, 2) := by decide +kernel
theorem dX7_init_64 : decode cX7_init 64 = .ok (.newarray .int, 2) := by decide +kernel
theorem dX7_init_66 : decode cX7_init 66 = .ok (.putfield 32, 3) := by decide +kernel
theorem dX7_init_69 : decode cX7_init 69 = .ok (.aload_n 0, 1) := by decide +kernel
theorem dX7_init_70 : decode cX7_init 70 = .ok (.iconst 5, 1) := by decide +kernel
theorem dX7_init_71 : decode cX7_init 71 = .ok (.newarray .int, 2) := by decide +kernel
theorem dX7_init_73 : decode cX7_init 73 = .ok (.putfield 35, 3) := by decide +kernel
theorem dX7_init_76 : decode cX7_init 76 = .ok (.aload_n 0, 1) := by decide +kernel
theorem dX7_init_77 : decode cX7_init 77 = .ok (.bipush 7, 2) := by decide +kernel
theorem dX7_init_79 : decode cX7_init 79 = .ok (.newarray .int, 2) := by decide +kernel
theorem dX7_init_81 : decode cX7_init 81 = .ok (.putfield 38, 3) := by decide +kernel
theorem dX7_init_84 : decode cX7_init 84 = .ok (.aload_n 0, 1) := by decide +kernel
theorem dX7_init_85 : decode cX7_init 85 = .ok (.bipush 7, 2) := by decide +kernel
theorem dX7_init_87 : decode cX7_init 87 = .ok (.newarray .int, 2) := by decide +kernel
theorem dX7_init_89 : decode cX7_init 89 = .ok (.putfield 41, 3) := by decide +kernel
theorem dX7_init_92 : decode cX7_init 92 = .ok (.aload_n 0, 1) := by decide +kernel
theorem dX7_init_93 : decode cX7_init 93 = .ok (.bipush 7, 2) := by decide +kernel
theorem dX7_init_95 : decode cX7_init 95 = .ok (.newarray .int, 2) := by decide +kernel
theorem dX7_init_97 : decode cX7_init 97 = .ok (.putfield 44, 3) := by decide +kernel
theorem dX7_init_100 : decode cX7_init 100 = .ok (.aload_n 0, 1) := by decide +kernel
theorem dX7_init_101 : decode cX7_init 101 = .ok (.bipush 7, 2) := by decide +kernel
theorem dX7_init_103 : decode cX7_init 103 = .ok (.newarray .int, 2) := by decide +kernel
theorem dX7_init_105 : decode cX7_init 105 = .ok (.putfield 47, 3) := by decide +kernel
theorem dX7_init_108 : decode cX7_init 108 = .ok (.aload_n 0, 1) := by decide +kernel
theorem dX7_init_109 : decode cX7_init 109 = .ok (.sipush 196, 3) := by decide +kernel
theorem dX7_init_112 : decode cX7_init 112 = .ok (.newarray .boolean, 2) := by decide +kernel
theorem dX7_init_114 : decode cX7_init 114 = .ok (.putfield 50, 3) := by decide +kernel
theorem dX7_init_117 : decode cX7_init 117 = .ok (.aload_n 0, 1) := by decide +kernel
theorem dX7_init_118 : decode cX7_init 118 = .ok (.getfield 7, 3) := by decide +kernel
theorem dX7_init_121 : decode cX7_init 121 = .ok (.iconst 0, 1) := by decide +kernel
theorem dX7_init_122 : decode cX7_init 122 = .ok (.iconst 0, 1) := by decide +kernel
theorem dX7_init_123 : decode cX7_init 123 = .ok (.iastore, 1) := by decide +kernel
theorem dX7_init_124 : decode cX7_init 124 = .ok (.aload_n 0, 1) := by decide +kernel
theorem dX7_init_125 : decode cX7_init 125 = .ok (.getfield 7, 3) := by decide +kernel
theorem dX7_init_128 : decode cX7_init 128 = .ok (.iconst 1, 1) := by decide +kernel
theorem dX7_init_129 : decode cX7_init 129 = .ok (.iconst 1, 1) := by decide +kernel
theorem dX7_init_130 : decode cX7_init 130 = .ok (.iastore, 1) := by decide +kernel
theorem dX7_init_131 : decode cX7_init 131 = .ok (.aload_n 0, 1) := by decide +kernel
theorem dX7_init_132 : decode cX7_init 132 = .ok (.getfield 7, 3) := by decide +kernel
theorem dX7_init_135 : decode cX7_init 135 = .ok (.iconst 2, 1) := by decide +kernel
theorem dX7_init_136 : decode cX7_init 136 = .ok (.iconst 3, 1) := by decide +kernel
theorem dX7_init_137 : decode cX7_init 137 = .ok (.iastore, 1) := by decide +kernel
theorem dX7_init_138 : decode cX7_init 138 = .ok (.aload_n 0, 1) := by decide +kernel
theorem dX7_init_139 : decode cX7_init 139 = .ok (.getfield 7, 3) := by decide +kernel
theorem dX7_init_142 : decode cX7_init 142 = .ok (.iconst 3, 1) := by decide +kernel
theorem dX7_init_143 : decode cX7_init 143 = .ok (.iconst 1, 1) := by decide +kernel
theorem dX7_init_144 : decode cX7_init 144 = .ok (.iastore, 1) := by decide +kernel
theorem dX7_init_145 : decode cX7_init 145 = .ok (.aload_n 0, 1) := by decide +kernel
theorem dX7_init_146 : decode cX7_init 146 = .ok (.getfield 7, 3) := by decide +kernel
theorem dX7_init_149 : decode cX7_init 149 = .ok (.iconst 4, 1) := by decide +kernel
theorem dX7_init_150 : decode cX7_init 150 = .ok (.iconst 2, 1) := by decide +kernel
theorem dX7_init_151 : decode cX7_init 151 = .ok (.iastore, 1) := by decide +kernel
theorem dX7_init_152 : decode cX7_init 152 = .ok (.aload_n 0, 1) := by decide +kernel
theorem dX7_init_153 : decode cX7_init 153 = .ok (.invokevirtual 53, 3) := by decide +kernel
theorem dX7_init_156 : decode cX7_init 156 = .ok (.return_, 1) := by decide +kernel
theorem dX7_in_0 : decode cX7_in 0 = .ok (.lload_n 0, 1) := by decide +kernel
theorem dX7_in_1 : decode cX7_in 1 = .ok (.lload_n 2, 1) := by decide +kernel
theorem dX7_in_2 : decode cX7_in 2 = .ok (.lcmp, 1) := by decide +kernel
theorem dX7_in_3 : decode cX7_in 3 = .ok (.ifCond .lt 14, 3) := by decide +kernel
theorem dX7_in_6 : decode cX7_in 6 = .ok (.lload_n 0, 1) := by decide +kernel
theorem dX7_in_7 : decode cX7_in 7 = .ok (.lload 4, 2) := by decide +kernel
theorem dX7_in_9 : decode cX7_in 9 = .ok (.lcmp, 1) := by decide +kernel
theorem dX7_in_10 : decode cX7_in 10 = .ok (.ifCond .gt 7, 3) := by decide +kernel
theorem dX7_in_13 : decode cX7_in 13 = .ok (.iconst 1, 1) := by decide +kernel
theorem dX7_in_14 : decode cX7_in 14 = .ok (.goto 4, 3) := by decide +kernel
theorem dX7_in_17 : decode cX7_in 17 = .ok (.iconst 0, 1) := by decide +kernel
theorem dX7_in_18 : decode cX7_in 18 = .ok (.ireturn, 1) := by decide +kernel
theorem dX7_begins_0 : decode cX7_begins 0 = .ok (.aload_n 0, 1) := by decide +kernel
theorem dX7_begins_1 : decode cX7_begins 1 = .ok (.invokevirtual 56, 3) := by decide +kernel
theorem dX7_begins_4 : decode cX7_begins 4 = .ok (.aload_n 0, 1) := by decide +kernel
theorem dX7_begins_5 : decode cX7_begins 5 = .ok (.getfield 7, 3) := by decide +kernel
theorem dX7_begins_8 : decode cX7_begins 8 = .ok (.iconst 5, 1) := by decide +kernel
theorem dX7_begins_9 : decode cX7_begins 9 = .ok (.iconst 0, 1) := by decide +kernel
theorem dX7_begins_10 : decode cX7_begins 10 = .ok (.iastore, 1) := by decide +kernel
theorem dX7_begins_11 : decode cX7_begins 11 = .ok (.aload_n 0, 1) := by decide +kernel
theorem dX7_begins_12 : decode cX7_begins 12 = .ok (.getfield 7, 3) := by decide +kernel
theorem dX7_begins_15 : decode cX7_begins 15 = .ok (.bipush 6, 2) := by decide +kernel
theorem dX7_begins_17 : decode cX7_begins 17 = .ok (.aload_n 0, 1) := by decide +kernel
theorem dX7_begins_18 : decode cX7_begins 18 = .ok (.getfield 59, 3) := by decide +kernel
theorem dX7_begins_21 : decode cX7_begins 21 = .ok (.iastore, 1) := by decide +kernel
theorem dX7_begins_22 : decode cX7_begins 22 = .ok (.return_, 1) := by decide +kernel
theorem dX7_keepPast_0 : decode cX7_keepPast 0 = .ok (.aload_n 0, 1) := by decide +kernel
theorem dX7_keepPast_1 : decode cX7_keepPast 1 = .ok (.getfield 63, 3) := by decide +kernel
theorem dX7_keepPast_4 : decode cX7_keepPast 4 = .ok (.bipush 6, 2) := by decide +kernel
theorem dX7_keepPast_6 : decode cX7_keepPast 6 = .ok (.if_icmp .ne 43, 3) := by decide +kernel
theorem dX7_keepPast_9 : decode cX7_keepPast 9 = .ok (.iconst 0, 1) := by decide +kernel
theorem dX7_keepPast_10 : decode cX7_keepPast 10 = .ok (.istore_n 1, 1) := by decide +kernel
theorem dX7_keepPast_11 : decode cX7_keepPast 11 = .ok (.iload_n 1, 1) := by decide +kernel
theorem dX7_keepPast_12 : decode cX7_keepPast 12 = .ok (.sipush 395, 3) := by decide +kernel
theorem dX7_keepPast_15 : decode cX7_keepPast 15 = .ok (.if_icmp .ge 24, 3) := by decide +kernel
theorem dX7_keepPast_18 : decode cX7_keepPast 18 = .ok (.aload_n 0, 1) := by decide +kernel
theorem dX7_keepPast_19 : decode cX7_keepPast 19 = .ok (.getfield 13, 3) := by decide +kernel
theorem dX7_keepPast_22 : decode cX7_keepPast 22 = .ok (.iload_n 1, 1) := by decide +kernel
theorem dX7_keepPast_23 : decode cX7_keepPast 23 = .ok (.aload_n 0, 1) := by decide +kernel
theorem dX7_keepPast_24 : decode cX7_keepPast 24 = .ok (.getfield 13, 3) := by decide +kernel
theorem dX7_keepPast_27 : decode cX7_keepPast 27 = .ok (.iload_n 1, 1) := by decide +kernel
theorem dX7_keepPast_28 : decode cX7_keepPast 28 = .ok (.bipush 79, 2) := by decide +kernel
theorem dX7_keepPast_30 : decode cX7_keepPast 30 = .ok (.iadd, 1) := by decide +kernel
theorem dX7_keepPast_31 : decode cX7_keepPast 31 = .ok (.iaload, 1) := by decide +kernel
theorem dX7_keepPast_32 : decode cX7_keepPast 32 = .ok (.iastore, 1) := by decide +kernel
theorem dX7_keepPast_33 : decode cX7_keepPast 33 = .ok (.iinc 1 1, 3) := by decide +kernel
theorem dX7_keepPast_36 : decode cX7_keepPast 36 = .ok (.goto (-25), 3) := by decide +kernel
theorem dX7_keepPast_39 : decode cX7_keepPast 39 = .ok (.aload_n 0, 1) := by decide +kernel
theorem dX7_keepPast_40 : decode cX7_keepPast 40 = .ok (.dup, 1) := by decide +kernel
theorem dX7_keepPast_41 : decode cX7_keepPast 41 = .ok (.getfield 63, 3) := by decide +kernel
theorem dX7_keepPast_44 : decode cX7_keepPast 44 = .ok (.iconst 1, 1) := by decide +kernel
theorem dX7_keepPast_45 : decode cX7_keepPast 45 = .ok (.isub, 1) := by decide +kernel
theorem dX7_keepPast_46 : decode cX7_keepPast 46 = .ok (.putfield 63, 3) := by decide +kernel
theorem dX7_keepPast_49 : decode cX7_keepPast 49 = .ok (.iconst 0, 1) := by decide +kernel
theorem dX7_keepPast_50 : decode cX7_keepPast 50 = .ok (.istore_n 1, 1) := by decide +kernel
theorem dX7_keepPast_51 : decode cX7_keepPast 51 = .ok (.iload_n 1, 1) := by decide +kernel
theorem dX7_keepPast_52 : decode cX7_keepPast 52 = .ok (.bipush 79, 2) := by decide +kernel
theorem dX7_keepPast_54 : decode cX7_keepPast 54 = .ok (.if_icmp .ge 29, 3) := by decide +kernel
theorem dX7_keepPast_57 : decode cX7_keepPast 57 = .ok (.aload_n 0, 1) := by decide +kernel
theorem dX7_keepPast_58 : decode cX7_keepPast 58 = .ok (.getfield 13, 3) := by decide +kernel
theorem dX7_keepPast_61 : decode cX7_keepPast 61 = .ok (.bipush 79, 2) := by decide +kernel
theorem dX7_keepPast_63 : decode cX7_keepPast 63 = .ok (.aload_n 0, 1) := by decide +kernel
theorem dX7_keepPast_64 : decode cX7_keepPast 64 = .ok (.getfield 63, 3) := by decide +kernel
theorem dX7_keepPast_67 : decode cX7_keepPast 67 = .ok (.imul, 1) := by decide +kernel
theorem dX7_keepPast_68 : decode cX7_keepPast 68 = .ok (.iload_n 1, 1) := by decide +kernel
theorem dX7_keepPast_69 : decode cX7_keepPast 69 = .ok (.iadd, 1) := by decide +kernel
theorem dX7_keepPast_70 : decode cX7_keepPast 70 = .ok (.aload_n 0, 1) := by decide +kernel
theorem dX7_keepPast_71 : decode cX7_keepPast 71 = .ok (.getfield 7, 3) := by decide +kernel
theorem dX7_keepPast_74 : decode cX7_keepPast 74 = .ok (.iload_n 1, 1) := by decide +kernel
theorem dX7_keepPast_75 : decode cX7_keepPast 75 = .ok (.iaload, 1) := by decide +kernel
theorem dX7_keepPast_76 : decode cX7_keepPast 76 = .ok (.iastore, 1) := by decide +kernel
theorem dX7_keepPast_77 : decode cX7_keepPast 77 = .ok (.iinc 1 1, 3) := by decide +kernel
theorem dX7_keepPast_80 : decode cX7_keepPast 80 = .ok (.goto (-29), 3) := by decide +kernel
theorem dX7_keepPast_83 : decode cX7_keepPast 83 = .ok (.aload_n 0, 1) := by decide +kernel
theorem dX7_keepPast_84 : decode cX7_keepPast 84 = .ok (.dup, 1) := by decide +kernel
theorem dX7_keepPast_85 : decode cX7_keepPast 85 = .ok (.getfield 63, 3) := by decide +kernel
theorem dX7_keepPast_88 : decode cX7_keepPast 88 = .ok (.iconst 1, 1) := by decide +kernel
theorem dX7_keepPast_89 : decode cX7_keepPast 89 = .ok (.iadd, 1) := by decide +kernel
theorem dX7_keepPast_90 : decode cX7_keepPast 90 = .ok (.putfield 63, 3) := by decide +kernel
theorem dX7_keepPast_93 : decode cX7_keepPast 93 = .ok (.return_, 1) := by decide +kernel
theorem dX7_states_0 : decode cX7_states 0 = .ok (.aload_n 0, 1) := by decide +kernel
theorem dX7_states_1 : decode cX7_states 1 = .ok (.getfield 7, 3) := by decide +kernel
theorem dX7_states_4 : decode cX7_states 4 = .ok (.iconst 0, 1) := by decide +kernel
theorem dX7_states_5 : decode cX7_states 5 = .ok (.iaload, 1) := by decide +kernel
theorem dX7_states_6 : decode cX7_states 6 = .ok (.ifCond .ne 14, 3) := by decide +kernel
theorem dX7_states_9 : decode cX7_states 9 = .ok (.aload_n 0, 1) := by decide +kernel
theorem dX7_states_10 : decode cX7_states 10 = .ok (.getfield 7, 3) := by decide +kernel
theorem dX7_states_13 : decode cX7_states 13 = .ok (.iconst 2, 1) := by decide +kernel
theorem dX7_states_14 : decode cX7_states 14 = .ok (.iaload, 1) := by decide +kernel
theorem dX7_states_15 : decode cX7_states 15 = .ok (.iconst 1, 1) := by decide +kernel
theorem dX7_states_16 : decode cX7_states 16 = .ok (.iadd, 1) := by decide +kernel
theorem dX7_states_17 : decode cX7_states 17 = .ok (.goto 32, 3) := by decide +kernel
theorem dX7_states_20 : decode cX7_states 20 = .ok (.aload_n 0, 1) := by decide +kernel
theorem dX7_states_21 : decode cX7_states 21 = .ok (.getfield 7, 3) := by decide +kernel
theorem dX7_states_24 : decode cX7_states 24 = .ok (.iconst 0, 1) := by decide +kernel
theorem dX7_states_25 : decode cX7_states 25 = .ok (.iaload, 1) := by decide +kernel
theorem dX7_states_26 : decode cX7_states 26 = .ok (.iconst 1, 1) := by decide +kernel
theorem dX7_states_27 : decode cX7_states 27 = .ok (.if_icmp .ne 16, 3) := by decide +kernel
theorem dX7_states_30 : decode cX7_states 30 = .ok (.iconst 2, 1) := by decide +kernel
theorem dX7_states_31 : decode cX7_states 31 = .ok (.aload_n 0, 1) := by decide +kernel
theorem dX7_states_32 : decode cX7_states 32 = .ok (.getfield 7, 3) := by decide +kernel
theorem dX7_states_35 : decode cX7_states 35 = .ok (.iconst 1, 1) := by decide +kernel
theorem dX7_states_36 : decode cX7_states 36 = .ok (.iaload, 1) := by decide +kernel
theorem dX7_states_37 : decode cX7_states 37 = .ok (.imul, 1) := by decide +kernel
theorem dX7_states_38 : decode cX7_states 38 = .ok (.iconst 1, 1) := by decide +kernel
theorem dX7_states_39 : decode cX7_states 39 = .ok (.iadd, 1) := by decide +kernel
theorem dX7_states_40 : decode cX7_states 40 = .ok (.goto 9, 3) := by decide +kernel
theorem dX7_states_43 : decode cX7_states 43 = .ok (.aload_n 0, 1) := by decide +kernel
theorem dX7_states_44 : decode cX7_states 44 = .ok (.getfield 7, 3) := by decide +kernel
theorem dX7_states_47 : decode cX7_states 47 = .ok (.iconst 1, 1) := by decide +kernel
theorem dX7_states_48 : decode cX7_states 48 = .ok (.iaload, 1) := by decide +kernel
theorem dX7_states_49 : decode cX7_states 49 = .ok (.ireturn, 1) := by decide +kernel
theorem dX7_start_0 : decode cX7_start 0 = .ok (.aload_n 0, 1) := by decide +kernel
theorem dX7_start_1 : decode cX7_start 1 = .ok (.getfield 7, 3) := by decide +kernel
theorem dX7_start_4 : decode cX7_start 4 = .ok (.iconst 0, 1) := by decide +kernel
theorem dX7_start_5 : decode cX7_start 5 = .ok (.iaload, 1) := by decide +kernel
theorem dX7_start_6 : decode cX7_start 6 = .ok (.iconst 1, 1) := by decide +kernel
theorem dX7_start_7 : decode cX7_start 7 = .ok (.if_icmp .ne 12, 3) := by decide +kernel
theorem dX7_start_10 : decode cX7_start 10 = .ok (.aload_n 0, 1) := by decide +kernel
theorem dX7_start_11 : decode cX7_start 11 = .ok (.getfield 7, 3) := by decide +kernel
theorem dX7_start_14 : decode cX7_start 14 = .ok (.iconst 1, 1) := by decide +kernel
theorem dX7_start_15 : decode cX7_start 15 = .ok (.iaload, 1) := by decide +kernel
theorem dX7_start_16 : decode cX7_start 16 = .ok (.goto 4, 3) := by decide +kernel
theorem dX7_start_19 : decode cX7_start 19 = .ok (.iconst 0, 1) := by decide +kernel
theorem dX7_start_20 : decode cX7_start 20 = .ok (.ireturn, 1) := by decide +kernel
theorem dX7_banned_0 : decode cX7_banned 0 = .ok (.aload_n 0, 1) := by decide +kernel
theorem dX7_banned_1 : decode cX7_banned 1 = .ok (.getfield 7, 3) := by decide +kernel
theorem dX7_banned_4 : decode cX7_banned 4 = .ok (.iconst 2, 1) := by decide +kernel
theorem dX7_banned_5 : decode cX7_banned 5 = .ok (.iaload, 1) := by decide +kernel
theorem dX7_banned_6 : decode cX7_banned 6 = .ok (.aload_n 0, 1) := by decide +kernel
theorem dX7_banned_7 : decode cX7_banned 7 = .ok (.getfield 7, 3) := by decide +kernel
theorem dX7_banned_10 : decode cX7_banned 10 = .ok (.iconst 1, 1) := by decide +kernel
theorem dX7_banned_11 : decode cX7_banned 11 = .ok (.iaload, 1) := by decide +kernel
theorem dX7_banned_12 : decode cX7_banned 12 = .ok (.iconst 1, 1) := by decide +kernel
theorem dX7_banned_13 : decode cX7_banned 13 = .ok (.isub, 1) := by decide +kernel
theorem dX7_banned_14 : decode cX7_banned 14 = .ok (.iload_n 1, 1) := by decide +kernel
theorem dX7_banned_15 : decode cX7_banned 15 = .ok (.isub, 1) := by decide +kernel
theorem dX7_banned_16 : decode cX7_banned 16 = .ok (.ishr, 1) := by decide +kernel
theorem dX7_banned_17 : decode cX7_banned 17 = .ok (.iconst 1, 1) := by decide +kernel
theorem dX7_banned_18 : decode cX7_banned 18 = .ok (.iand, 1) := by decide +kernel
theorem dX7_banned_19 : decode cX7_banned 19 = .ok (.ireturn, 1) := by decide +kernel
theorem dX7_border_0 : decode cX7_border 0 = .ok (.iload_n 3, 1) := by decide +kernel
theorem dX7_border_1 : decode cX7_border 1 = .ok (.istore 4, 2) := by decide +kernel
theorem dX7_border_3 : decode cX7_border 3 = .ok (.iload 4, 2) := by decide +kernel
theorem dX7_border_5 : decode cX7_border 5 = .ok (.ifCond .le 88, 3) := by decide +kernel
theorem dX7_border_8 : decode cX7_border 8 = .ok (.aload_n 0, 1) := by decide +kernel
theorem dX7_border_9 : decode cX7_border 9 = .ok (.iload 4, 2) := by decide +kernel
theorem dX7_border_11 : decode cX7_border 11 = .ok (.iconst 1, 1) := by decide +kernel
theorem dX7_border_12 : decode cX7_border 12 = .ok (.isub, 1) := by decide +kernel
theorem dX7_border_13 : decode cX7_border 13 = .ok (.invokevirtual 66, 3) := by decide +kernel
theorem dX7_border_16 : decode cX7_border 16 = .ok (.iload_n 2, 1) := by decide +kernel
theorem dX7_border_17 : decode cX7_border 17 = .ok (.if_icmp .ne 7, 3) := by decide +kernel
theorem dX7_border_20 : decode cX7_border 20 = .ok (.iconst 1, 1) := by decide +kernel
theorem dX7_border_21 : decode cX7_border 21 = .ok (.goto 4, 3) := by decide +kernel
theorem dX7_border_24 : decode cX7_border 24 = .ok (.iconst 0, 1) := by decide +kernel
theorem dX7_border_25 : decode cX7_border 25 = .ok (.istore 5, 2) := by decide +kernel
theorem dX7_border_27 : decode cX7_border 27 = .ok (.iconst 0, 1) := by decide +kernel
theorem dX7_border_28 : decode cX7_border 28 = .ok (.istore 6, 2) := by decide +kernel
theorem dX7_border_30 : decode cX7_border 30 = .ok (.iload 6, 2) := by decide +kernel
theorem dX7_border_32 : decode cX7_border 32 = .ok (.iload 4, 2) := by decide +kernel
theorem dX7_border_34 : decode cX7_border 34 = .ok (.iconst 1, 1) := by decide +kernel
theorem dX7_border_35 : decode cX7_border 35 = .ok (.isub, 1) := by decide +kernel
theorem dX7_border_36 : decode cX7_border 36 = .ok (.if_icmp .ge 43, 3) := by decide +kernel
theorem dX7_border_39 : decode cX7_border 39 = .ok (.iload 5, 2) := by decide +kernel
theorem dX7_border_41 : decode cX7_border 41 = .ok (.ifCond .eq 38, 3) := by decide +kernel
theorem dX7_border_44 : decode cX7_border 44 = .ok (.aload_n 0, 1) := by decide +kernel
theorem dX7_border_45 : decode cX7_border 45 = .ok (.iload 6, 2) := by decide +kernel
theorem dX7_border_47 : decode cX7_border 47 = .ok (.invokevirtual 66, 3) := by decide +kernel
theorem dX7_border_50 : decode cX7_border 50 = .ok (.aload_n 0, 1) := by decide +kernel
theorem dX7_border_51 : decode cX7_border 51 = .ok (.iload_n 1, 1) := by decide +kernel
theorem dX7_border_52 : decode cX7_border 52 = .ok (.iload 4, 2) := by decide +kernel
theorem dX7_border_54 : decode cX7_border 54 = .ok (.iconst 1, 1) := by decide +kernel
theorem dX7_border_55 : decode cX7_border 55 = .ok (.isub, 1) := by decide +kernel
theorem dX7_border_56 : decode cX7_border 56 = .ok (.isub, 1) := by decide +kernel
theorem dX7_border_57 : decode cX7_border 57 = .ok (.iload 6, 2) := by decide +kernel
theorem dX7_border_59 : decode cX7_border 59 = .ok (.iadd, 1) := by decide +kernel
theorem dX7_border_60 : decode cX7_border 60 = .ok (.invokevirtual 66, 3) := by decide +kernel
theorem dX7_border_63 : decode cX7_border 63 = .ok (.if_icmp .ne 7, 3) := by decide +kernel
theorem dX7_border_66 : decode cX7_border 66 = .ok (.iconst 1, 1) := by decide +kernel
theorem dX7_border_67 : decode cX7_border 67 = .ok (.goto 4, 3) := by decide +kernel
theorem dX7_border_70 : decode cX7_border 70 = .ok (.iconst 0, 1) := by decide +kernel
theorem dX7_border_71 : decode cX7_border 71 = .ok (.istore 5, 2) := by decide +kernel
theorem dX7_border_73 : decode cX7_border 73 = .ok (.iinc 6 1, 3) := by decide +kernel
theorem dX7_border_76 : decode cX7_border 76 = .ok (.goto (-46), 3) := by decide +kernel
theorem dX7_border_79 : decode cX7_border 79 = .ok (.iload 5, 2) := by decide +kernel
theorem dX7_border_81 : decode cX7_border 81 = .ok (.ifCond .eq 6, 3) := by decide +kernel
theorem dX7_border_84 : decode cX7_border 84 = .ok (.iload 4, 2) := by decide +kernel
theorem dX7_border_86 : decode cX7_border 86 = .ok (.ireturn, 1) := by decide +kernel
theorem dX7_border_87 : decode cX7_border 87 = .ok (.iinc 4 (-1), 3) := by decide +kernel
theorem dX7_border_90 : decode cX7_border 90 = .ok (.goto (-87), 3) := by decide +kernel
theorem dX7_border_93 : decode cX7_border 93 = .ok (.iconst 0, 1) := by decide +kernel
theorem dX7_border_94 : decode cX7_border 94 = .ok (.ireturn, 1) := by decide +kernel
theorem dX7_stepOf_0 : decode cX7_stepOf 0 = .ok (.aload_n 0, 1) := by decide +kernel
theorem dX7_stepOf_1 : decode cX7_stepOf 1 = .ok (.getfield 7, 3) := by decide +kernel
theorem dX7_stepOf_4 : decode cX7_stepOf 4 = .ok (.iconst 0, 1) := by decide +kernel
theorem dX7_stepOf_5 : decode cX7_stepOf 5 = .ok (.iaload, 1) := by decide +kernel
theorem dX7_stepOf_6 : decode cX7_stepOf 6 = .ok (.ifCond .ne 45, 3) := by decide +kernel
theorem dX7_stepOf_9 : decode cX7_stepOf 9 = .ok (.iload_n 2, 1) := by decide +kernel
theorem dX7_stepOf_10 : decode cX7_stepOf 10 = .ok (.ifCond .ne 24, 3) := by decide +kernel
theorem dX7_stepOf_13 : decode cX7_stepOf 13 = .ok (.iload_n 1, 1) := by decide +kernel
theorem dX7_stepOf_14 : decode cX7_stepOf 14 = .ok (.aload_n 0, 1) := by decide +kernel
theorem dX7_stepOf_15 : decode cX7_stepOf 15 = .ok (.getfield 7, 3) := by decide +kernel
theorem dX7_stepOf_18 : decode cX7_stepOf 18 = .ok (.iconst 2, 1) := by decide +kernel
theorem dX7_stepOf_19 : decode cX7_stepOf 19 = .ok (.iaload, 1) := by decide +kernel
theorem dX7_stepOf_20 : decode cX7_stepOf 20 = .ok (.if_icmp .ge 9, 3) := by decide +kernel
theorem dX7_stepOf_23 : decode cX7_stepOf 23 = .ok (.iload_n 1, 1) := by decide +kernel
theorem dX7_stepOf_24 : decode cX7_stepOf 24 = .ok (.iconst 1, 1) := by decide +kernel
theorem dX7_stepOf_25 : decode cX7_stepOf 25 = .ok (.iadd, 1) := by decide +kernel
theorem dX7_stepOf_26 : decode cX7_stepOf 26 = .ok (.goto 24, 3) := by decide +kernel
theorem dX7_stepOf_29 : decode cX7_stepOf 29 = .ok (.bipush (-9), 2) := by decide +kernel
theorem dX7_stepOf_31 : decode cX7_stepOf 31 = .ok (.goto 19, 3) := by decide +kernel
theorem dX7_stepOf_34 : decode cX7_stepOf 34 = .ok (.iload_n 1, 1) := by decide +kernel
theorem dX7_stepOf_35 : decode cX7_stepOf 35 = .ok (.aload_n 0, 1) := by decide +kernel
theorem dX7_stepOf_36 : decode cX7_stepOf 36 = .ok (.getfield 7, 3) := by decide +kernel
theorem dX7_stepOf_39 : decode cX7_stepOf 39 = .ok (.iconst 1, 1) := by decide +kernel
theorem dX7_stepOf_40 : decode cX7_stepOf 40 = .ok (.iaload, 1) := by decide +kernel
theorem dX7_stepOf_41 : decode cX7_stepOf 41 = .ok (.if_icmp .lt 7, 3) := by decide +kernel
theorem dX7_stepOf_44 : decode cX7_stepOf 44 = .ok (.iconst 0, 1) := by decide +kernel
theorem dX7_stepOf_45 : decode cX7_stepOf 45 = .ok (.goto 5, 3) := by decide +kernel
theorem dX7_stepOf_48 : decode cX7_stepOf 48 = .ok (.bipush (-9), 2) := by decide +kernel
theorem dX7_stepOf_50 : decode cX7_stepOf 50 = .ok (.ireturn, 1) := by decide +kernel
theorem dX7_stepOf_51 : decode cX7_stepOf 51 = .ok (.aload_n 0, 1) := by decide +kernel
theorem dX7_stepOf_52 : decode cX7_stepOf 52 = .ok (.getfield 7, 3) := by decide +kernel
theorem dX7_stepOf_55 : decode cX7_stepOf 55 = .ok (.iconst 0, 1) := by decide +kernel
theorem dX7_stepOf_56 : decode cX7_stepOf 56 = .ok (.iaload, 1) := by decide +kernel
theorem dX7_stepOf_57 : decode cX7_stepOf 57 = .ok (.iconst 1, 1) := by decide +kernel
theorem dX7_stepOf_58 : decode cX7_stepOf 58 = .ok (.if_icmp .ne 43, 3) := by decide +kernel
theorem dX7_stepOf_61 : decode cX7_stepOf 61 = .ok (.iload_n 2, 1) := by decide +kernel
theorem dX7_stepOf_62 : decode cX7_stepOf 62 = .ok (.iconst 1, 1) := by decide +kernel
theorem dX7_stepOf_63 : decode cX7_stepOf 63 = .ok (.if_icmp .ne 9, 3) := by decide +kernel
theorem dX7_stepOf_66 : decode cX7_stepOf 66 = .ok (.iload_n 1, 1) := by decide +kernel
theorem dX7_stepOf_67 : decode cX7_stepOf 67 = .ok (.iconst 1, 1) := by decide +kernel
theorem dX7_stepOf_68 : decode cX7_stepOf 68 = .ok (.iadd, 1) := by decide +kernel
theorem dX7_stepOf_69 : decode cX7_stepOf 69 = .ok (.goto 6, 3) := by decide +kernel
theorem dX7_stepOf_72 : decode cX7_stepOf 72 = .ok (.iload_n 1, 1) := by decide +kernel
theorem dX7_stepOf_73 : decode cX7_stepOf 73 = .ok (.iconst 1, 1) := by decide +kernel
theorem dX7_stepOf_74 : decode cX7_stepOf 74 = .ok (.isub, 1) := by decide +kernel
theorem dX7_stepOf_75 : decode cX7_stepOf 75 = .ok (.istore_n 3, 1) := by decide +kernel
theorem dX7_stepOf_76 : decode cX7_stepOf 76 = .ok (.iload_n 3, 1) := by decide +kernel
theorem dX7_stepOf_77 : decode cX7_stepOf 77 = .ok (.i2l, 1) := by decide +kernel
theorem dX7_stepOf_78 : decode cX7_stepOf 78 = .ok (.lconst 0, 1) := by decide +kernel
theorem dX7_stepOf_79 : decode cX7_stepOf 79 = .ok (.iconst 2, 1) := by decide +kernel
theorem dX7_stepOf_80 : decode cX7_stepOf 80 = .ok (.aload_n 0, 1) := by decide +kernel
theorem dX7_stepOf_81 : decode cX7_stepOf 81 = .ok (.getfield 7, 3) := by decide +kernel
theorem dX7_stepOf_84 : decode cX7_stepOf 84 = .ok (.iconst 1, 1) := by decide +kernel
theorem dX7_stepOf_85 : decode cX7_stepOf 85 = .ok (.iaload, 1) := by decide +kernel
theorem dX7_stepOf_86 : decode cX7_stepOf 86 = .ok (.imul, 1) := by decide +kernel
theorem dX7_stepOf_87 : decode cX7_stepOf 87 = .ok (.i2l, 1) := by decide +kernel
theorem dX7_stepOf_88 : decode cX7_stepOf 88 = .ok (.invokestatic 70, 3) := by decide +kernel
theorem dX7_stepOf_91 : decode cX7_stepOf 91 = .ok (.ifCond .eq 7, 3) := by decide +kernel
theorem dX7_stepOf_94 : decode cX7_stepOf 94 = .ok (.iload_n 3, 1) := by decide +kernel
theorem dX7_stepOf_95 : decode cX7_stepOf 95 = .ok (.goto 5, 3) := by decide +kernel
theorem dX7_stepOf_98 : decode cX7_stepOf 98 = .ok (.bipush (-9), 2) := by decide +kernel
theorem dX7_stepOf_100 : decode cX7_stepOf 100 = .ok (.ireturn, 1) := by decide +kernel
theorem dX7_stepOf_101 : decode cX7_stepOf 101 = .ok (.aload_n 0, 1) := by decide +kernel
theorem dX7_stepOf_102 : decode cX7_stepOf 102 = .ok (.iload_n 1, 1) := by decide +kernel
theorem dX7_stepOf_103 : decode cX7_stepOf 103 = .ok (.iload_n 2, 1) := by decide +kernel
theorem dX7_stepOf_104 : decode cX7_stepOf 104 = .ok (.iload_n 1, 1) := by decide +kernel
theorem dX7_stepOf_105 : decode cX7_stepOf 105 = .ok (.iconst 1, 1) := by decide +kernel
theorem dX7_stepOf_106 : decode cX7_stepOf 106 = .ok (.iadd, 1) := by decide +kernel
theorem dX7_stepOf_107 : decode cX7_stepOf 107 = .ok (.invokevirtual 74, 3) := by decide +kernel
theorem dX7_stepOf_110 : decode cX7_stepOf 110 = .ok (.istore_n 3, 1) := by decide +kernel
theorem dX7_stepOf_111 : decode cX7_stepOf 111 = .ok (.iload_n 3, 1) := by decide +kernel
theorem dX7_stepOf_112 : decode cX7_stepOf 112 = .ok (.aload_n 0, 1) := by decide +kernel
theorem dX7_stepOf_113 : decode cX7_stepOf 113 = .ok (.getfield 7, 3) := by decide +kernel
theorem dX7_stepOf_116 : decode cX7_stepOf 116 = .ok (.iconst 1, 1) := by decide +kernel
theorem dX7_stepOf_117 : decode cX7_stepOf 117 = .ok (.iaload, 1) := by decide +kernel
theorem dX7_stepOf_118 : decode cX7_stepOf 118 = .ok (.if_icmp .ne 8, 3) := by decide +kernel
theorem dX7_stepOf_121 : decode cX7_stepOf 121 = .ok (.bipush (-9), 2) := by decide +kernel
theorem dX7_stepOf_123 : decode cX7_stepOf 123 = .ok (.goto 4, 3) := by decide +kernel
theorem dX7_stepOf_126 : decode cX7_stepOf 126 = .ok (.iload_n 3, 1) := by decide +kernel
theorem dX7_stepOf_127 : decode cX7_stepOf 127 = .ok (.ireturn, 1) := by decide +kernel
theorem dX7_words_0 : decode cX7_words 0 = .ok (.iconst 1, 1) := by decide +kernel
theorem dX7_words_1 : decode cX7_words 1 = .ok (.aload_n 0, 1) := by decide +kernel
theorem dX7_words_2 : decode cX7_words 2 = .ok (.getfield 7, 3) := by decide +kernel
theorem dX7_words_5 : decode cX7_words 5 = .ok (.iconst 4, 1) := by decide +kernel
theorem dX7_words_6 : decode cX7_words 6 = .ok (.iaload, 1) := by decide +kernel
theorem dX7_words_7 : decode cX7_words 7 = .ok (.ishl, 1) := by decide +kernel
theorem dX7_words_8 : decode cX7_words 8 = .ok (.ireturn, 1) := by decide +kernel
theorem dX7_lead_0 : decode cX7_lead 0 = .ok (.iload_n 2, 1) := by decide +kernel
theorem dX7_lead_1 : decode cX7_lead 1 = .ok (.aload_n 0, 1) := by decide +kernel
theorem dX7_lead_2 : decode cX7_lead 2 = .ok (.invokevirtual 78, 3) := by decide +kernel
theorem dX7_lead_5 : decode cX7_lead 5 = .ok (.if_icmp .ge 17, 3) := by decide +kernel
theorem dX7_lead_8 : decode cX7_lead 8 = .ok (.aload_n 0, 1) := by decide +kernel
theorem dX7_lead_9 : decode cX7_lead 9 = .ok (.getfield 29, 3) := by decide +kernel
theorem dX7_lead_12 : decode cX7_lead 12 = .ok (.bipush 16, 2) := by decide +kernel
theorem dX7_lead_14 : decode cX7_lead 14 = .ok (.iload_n 1, 1) := by decide +kernel
theorem dX7_lead_15 : decode cX7_lead 15 = .ok (.imul, 1) := by decide +kernel
theorem dX7_lead_16 : decode cX7_lead 16 = .ok (.iload_n 2, 1) := by decide +kernel
theorem dX7_lead_17 : decode cX7_lead 17 = .ok (.iadd, 1) := by decide +kernel
theorem dX7_lead_18 : decode cX7_lead 18 = .ok (.iaload, 1) := by decide +kernel
theorem dX7_lead_19 : decode cX7_lead 19 = .ok (.goto 5, 3) := by decide +kernel
theorem dX7_lead_22 : decode cX7_lead 22 = .ok (.bipush (-9), 2) := by decide +kernel
theorem dX7_lead_24 : decode cX7_lead 24 = .ok (.ireturn, 1) := by decide +kernel
theorem dX7_tag_0 : decode cX7_tag 0 = .ok (.iload_n 2, 1) := by decide +kernel
theorem dX7_tag_1 : decode cX7_tag 1 = .ok (.aload_n 0, 1) := by decide +kernel
theorem dX7_tag_2 : decode cX7_tag 2 = .ok (.invokevirtual 78, 3) := by decide +kernel
theorem dX7_tag_5 : decode cX7_tag 5 = .ok (.if_icmp .ge 17, 3) := by decide +kernel
theorem dX7_tag_8 : decode cX7_tag 8 = .ok (.aload_n 0, 1) := by decide +kernel
theorem dX7_tag_9 : decode cX7_tag 9 = .ok (.getfield 32, 3) := by decide +kernel
theorem dX7_tag_12 : decode cX7_tag 12 = .ok (.bipush 16, 2) := by decide +kernel
theorem dX7_tag_14 : decode cX7_tag 14 = .ok (.iload_n 1, 1) := by decide +kernel
theorem dX7_tag_15 : decode cX7_tag 15 = .ok (.imul, 1) := by decide +kernel
theorem dX7_tag_16 : decode cX7_tag 16 = .ok (.iload_n 2, 1) := by decide +kernel
theorem dX7_tag_17 : decode cX7_tag 17 = .ok (.iadd, 1) := by decide +kernel
theorem dX7_tag_18 : decode cX7_tag 18 = .ok (.iaload, 1) := by decide +kernel
theorem dX7_tag_19 : decode cX7_tag 19 = .ok (.goto 5, 3) := by decide +kernel
theorem dX7_tag_22 : decode cX7_tag 22 = .ok (.bipush (-9), 2) := by decide +kernel
theorem dX7_tag_24 : decode cX7_tag 24 = .ok (.ireturn, 1) := by decide +kernel
theorem dX7_layArcs_0 : decode cX7_layArcs 0 = .ok (.iconst 0, 1) := by decide +kernel
theorem dX7_layArcs_1 : decode cX7_layArcs 1 = .ok (.istore_n 1, 1) := by decide +kernel
theorem dX7_layArcs_2 : decode cX7_layArcs 2 = .ok (.iload_n 1, 1) := by decide +kernel
theorem dX7_layArcs_3 : decode cX7_layArcs 3 = .ok (.aload_n 0, 1) := by decide +kernel
theorem dX7_layArcs_4 : decode cX7_layArcs 4 = .ok (.invokevirtual 82, 3) := by decide +kernel
theorem dX7_layArcs_7 : decode cX7_layArcs 7 = .ok (.if_icmp .ge 78, 3) := by decide +kernel
theorem dX7_layArcs_10 : decode cX7_layArcs 10 = .ok (.iconst 0, 1) := by decide +kernel
theorem dX7_layArcs_11 : decode cX7_layArcs 11 = .ok (.istore_n 2, 1) := by decide +kernel
theorem dX7_layArcs_12 : decode cX7_layArcs 12 = .ok (.iload_n 2, 1) := by decide +kernel
theorem dX7_layArcs_13 : decode cX7_layArcs 13 = .ok (.aload_n 0, 1) := by decide +kernel
theorem dX7_layArcs_14 : decode cX7_layArcs 14 = .ok (.invokevirtual 78, 3) := by decide +kernel
theorem dX7_layArcs_17 : decode cX7_layArcs 17 = .ok (.if_icmp .ge 62, 3) := by decide +kernel
theorem dX7_layArcs_20 : decode cX7_layArcs 20 = .ok (.iload_n 1, 1) := by decide +kernel
theorem dX7_layArcs_21 : decode cX7_layArcs 21 = .ok (.istore_n 3, 1) := by decide +kernel
theorem dX7_layArcs_22 : decode cX7_layArcs 22 = .ok (.aload_n 0, 1) := by decide +kernel
theorem dX7_layArcs_23 : decode cX7_layArcs 23 = .ok (.getfield 7, 3) := by decide +kernel
theorem dX7_layArcs_26 : decode cX7_layArcs 26 = .ok (.iconst 4, 1) := by decide +kernel
theorem dX7_layArcs_27 : decode cX7_layArcs 27 = .ok (.iaload, 1) := by decide +kernel
theorem dX7_layArcs_28 : decode cX7_layArcs 28 = .ok (.iconst 1, 1) := by decide +kernel
theorem dX7_layArcs_29 : decode cX7_layArcs 29 = .ok (.isub, 1) := by decide +kernel
theorem dX7_layArcs_30 : decode cX7_layArcs 30 = .ok (.istore 4, 2) := by decide +kernel
theorem dX7_layArcs_32 : decode cX7_layArcs 32 = .ok (.iload 4, 2) := by decide +kernel
theorem dX7_layArcs_34 : decode cX7_layArcs 34 = .ok (.ifCond .lt 27, 3) := by decide +kernel
theorem dX7_layArcs_37 : decode cX7_layArcs 37 = .ok (.iload_n 3, 1) := by decide +kernel
theorem dX7_layArcs_38 : decode cX7_layArcs 38 = .ok (.bipush (-9), 2) := by decide +kernel
theorem dX7_layArcs_40 : decode cX7_layArcs 40 = .ok (.if_icmp .eq 21, 3) := by decide +kernel
theorem dX7_layArcs_43 : decode cX7_layArcs 43 = .ok (.aload_n 0, 1) := by decide +kernel
theorem dX7_layArcs_44 : decode cX7_layArcs 44 = .ok (.iload_n 3, 1) := by decide +kernel
theorem dX7_layArcs_45 : decode cX7_layArcs 45 = .ok (.iload_n 2, 1) := by decide +kernel
theorem dX7_layArcs_46 : decode cX7_layArcs 46 = .ok (.iload 4, 2) := by decide +kernel
theorem dX7_layArcs_48 : decode cX7_layArcs 48 = .ok (.ishr, 1) := by decide +kernel
theorem dX7_layArcs_49 : decode cX7_layArcs 49 = .ok (.iconst 1, 1) := by decide +kernel
theorem dX7_layArcs_50 : decode cX7_layArcs 50 = .ok (.iand, 1) := by decide +kernel
theorem dX7_layArcs_51 : decode cX7_layArcs 51 = .ok (.invokevirtual 85, 3) := by decide +kernel
theorem dX7_layArcs_54 : decode cX7_layArcs 54 = .ok (.istore_n 3, 1) := by decide +kernel
theorem dX7_layArcs_55 : decode cX7_layArcs 55 = .ok (.iinc 4 (-1), 3) := by decide +kernel
theorem dX7_layArcs_58 : decode cX7_layArcs 58 = .ok (.goto (-26), 3) := by decide +kernel
theorem dX7_layArcs_61 : decode cX7_layArcs 61 = .ok (.aload_n 0, 1) := by decide +kernel
theorem dX7_layArcs_62 : decode cX7_layArcs 62 = .ok (.getfield 29, 3) := by decide +kernel
theorem dX7_layArcs_65 : decode cX7_layArcs 65 = .ok (.bipush 16, 2) := by decide +kernel
theorem dX7_layArcs_67 : decode cX7_layArcs 67 = .ok (.iload_n 1, 1) := by decide +kernel
theorem dX7_layArcs_68 : decode cX7_layArcs 68 = .ok (.imul, 1) := by decide +kernel
theorem dX7_layArcs_69 : decode cX7_layArcs 69 = .ok (.iload_n 2, 1) := by decide +kernel
theorem dX7_layArcs_70 : decode cX7_layArcs 70 = .ok (.iadd, 1) := by decide +kernel
theorem dX7_layArcs_71 : decode cX7_layArcs 71 = .ok (.iload_n 3, 1) := by decide +kernel
theorem dX7_layArcs_72 : decode cX7_layArcs 72 = .ok (.iastore, 1) := by decide +kernel
theorem dX7_layArcs_73 : decode cX7_layArcs 73 = .ok (.iinc 2 1, 3) := by decide +kernel
theorem dX7_layArcs_76 : decode cX7_layArcs 76 = .ok (.goto (-64), 3) := by decide +kernel
theorem dX7_layArcs_79 : decode cX7_layArcs 79 = .ok (.iinc 1 1, 3) := by decide +kernel
theorem dX7_layArcs_82 : decode cX7_layArcs 82 = .ok (.goto (-80), 3) := by decide +kernel
theorem dX7_layArcs_85 : decode cX7_layArcs 85 = .ok (.return_, 1) := by decide +kernel
theorem dX7_goodArcs_0 : decode cX7_goodArcs 0 = .ok (.iconst 0, 1) := by decide +kernel
theorem dX7_goodArcs_1 : decode cX7_goodArcs 1 = .ok (.istore_n 2, 1) := by decide +kernel
theorem dX7_goodArcs_2 : decode cX7_goodArcs 2 = .ok (.iconst 0, 1) := by decide +kernel
theorem dX7_goodArcs_3 : decode cX7_goodArcs 3 = .ok (.istore_n 3, 1) := by decide +kernel
theorem dX7_goodArcs_4 : decode cX7_goodArcs 4 = .ok (.iload_n 3, 1) := by decide +kernel
theorem dX7_goodArcs_5 : decode cX7_goodArcs 5 = .ok (.aload_n 0, 1) := by decide +kernel
theorem dX7_goodArcs_6 : decode cX7_goodArcs 6 = .ok (.invokevirtual 78, 3) := by decide +kernel
theorem dX7_goodArcs_9 : decode cX7_goodArcs 9 = .ok (.if_icmp .ge 45, 3) := by decide +kernel
theorem dX7_goodArcs_12 : decode cX7_goodArcs 12 = .ok (.aload_n 0, 1) := by decide +kernel
theorem dX7_goodArcs_13 : decode cX7_goodArcs 13 = .ok (.iload_n 1, 1) := by decide +kernel
theorem dX7_goodArcs_14 : decode cX7_goodArcs 14 = .ok (.iload_n 3, 1) := by decide +kernel
theorem dX7_goodArcs_15 : decode cX7_goodArcs 15 = .ok (.invokevirtual 89, 3) := by decide +kernel
theorem dX7_goodArcs_18 : decode cX7_goodArcs 18 = .ok (.istore 4, 2) := by decide +kernel
theorem dX7_goodArcs_20 : decode cX7_goodArcs 20 = .ok (.iload_n 2, 1) := by decide +kernel
theorem dX7_goodArcs_21 : decode cX7_goodArcs 21 = .ok (.iload 4, 2) := by decide +kernel
theorem dX7_goodArcs_23 : decode cX7_goodArcs 23 = .ok (.bipush (-9), 2) := by decide +kernel
theorem dX7_goodArcs_25 : decode cX7_goodArcs 25 = .ok (.if_icmp .eq 20, 3) := by decide +kernel
theorem dX7_goodArcs_28 : decode cX7_goodArcs 28 = .ok (.aload_n 0, 1) := by decide +kernel
theorem dX7_goodArcs_29 : decode cX7_goodArcs 29 = .ok (.getfield 92, 3) := by decide +kernel
theorem dX7_goodArcs_32 : decode cX7_goodArcs 32 = .ok (.iload 4, 2) := by decide +kernel
theorem dX7_goodArcs_34 : decode cX7_goodArcs 34 = .ok (.ishr, 1) := by decide +kernel
theorem dX7_goodArcs_35 : decode cX7_goodArcs 35 = .ok (.iconst 1, 1) := by decide +kernel
theorem dX7_goodArcs_36 : decode cX7_goodArcs 36 = .ok (.iand, 1) := by decide +kernel
theorem dX7_goodArcs_37 : decode cX7_goodArcs 37 = .ok (.iconst 1, 1) := by decide +kernel
theorem dX7_goodArcs_38 : decode cX7_goodArcs 38 = .ok (.if_icmp .ne 7, 3) := by decide +kernel
theorem dX7_goodArcs_41 : decode cX7_goodArcs 41 = .ok (.iconst 1, 1) := by decide +kernel
theorem dX7_goodArcs_42 : decode cX7_goodArcs 42 = .ok (.goto 4, 3) := by decide +kernel
theorem dX7_goodArcs_45 : decode cX7_goodArcs 45 = .ok (.iconst 0, 1) := by decide +kernel
theorem dX7_goodArcs_46 : decode cX7_goodArcs 46 = .ok (.iadd, 1) := by decide +kernel
theorem dX7_goodArcs_47 : decode cX7_goodArcs 47 = .ok (.istore_n 2, 1) := by decide +kernel
theorem dX7_goodArcs_48 : decode cX7_goodArcs 48 = .ok (.iinc 3 1, 3) := by decide +kernel
theorem dX7_goodArcs_51 : decode cX7_goodArcs 51 = .ok (.goto (-47), 3) := by decide +kernel
theorem dX7_goodArcs_54 : decode cX7_goodArcs 54 = .ok (.iload_n 2, 1) := by decide +kernel
theorem dX7_goodArcs_55 : decode cX7_goodArcs 55 = .ok (.ireturn, 1) := by decide +kernel
theorem dX7_finds_0 : decode cX7_finds 0 = .ok (.aload_n 0, 1) := by decide +kernel
theorem dX7_finds_1 : decode cX7_finds 1 = .ok (.invokevirtual 95, 3) := by decide +kernel
theorem dX7_finds_4 : decode cX7_finds 4 = .ok (.aload_n 0, 1) := by decide +kernel
theorem dX7_finds_5 : decode cX7_finds 5 = .ok (.iconst 1, 1) := by decide +kernel
theorem dX7_finds_6 : decode cX7_finds 6 = .ok (.aload_n 0, 1) := by decide +kernel
theorem dX7_finds_7 : decode cX7_finds 7 = .ok (.invokevirtual 82, 3) := by decide +kernel
theorem dX7_finds_10 : decode cX7_finds 10 = .ok (.ishl, 1) := by decide +kernel
theorem dX7_finds_11 : decode cX7_finds 11 = .ok (.iconst 1, 1) := by decide +kernel
theorem dX7_finds_12 : decode cX7_finds 12 = .ok (.isub, 1) := by decide +kernel
theorem dX7_finds_13 : decode cX7_finds 13 = .ok (.putfield 92, 3) := by decide +kernel
theorem dX7_finds_16 : decode cX7_finds 16 = .ok (.iconst 0, 1) := by decide +kernel
theorem dX7_finds_17 : decode cX7_finds 17 = .ok (.istore_n 1, 1) := by decide +kernel
theorem dX7_finds_18 : decode cX7_finds 18 = .ok (.iload_n 1, 1) := by decide +kernel
theorem dX7_finds_19 : decode cX7_finds 19 = .ok (.aload_n 0, 1) := by decide +kernel
theorem dX7_finds_20 : decode cX7_finds 20 = .ok (.getfield 92, 3) := by decide +kernel
theorem dX7_finds_23 : decode cX7_finds 23 = .ok (.if_icmp .eq 72, 3) := by decide +kernel
theorem dX7_finds_26 : decode cX7_finds 26 = .ok (.aload_n 0, 1) := by decide +kernel
theorem dX7_finds_27 : decode cX7_finds 27 = .ok (.getfield 92, 3) := by decide +kernel
theorem dX7_finds_30 : decode cX7_finds 30 = .ok (.istore_n 1, 1) := by decide +kernel
theorem dX7_finds_31 : decode cX7_finds 31 = .ok (.iconst 0, 1) := by decide +kernel
theorem dX7_finds_32 : decode cX7_finds 32 = .ok (.istore_n 2, 1) := by decide +kernel
theorem dX7_finds_33 : decode cX7_finds 33 = .ok (.iconst 0, 1) := by decide +kernel
theorem dX7_finds_34 : decode cX7_finds 34 = .ok (.istore_n 3, 1) := by decide +kernel
theorem dX7_finds_35 : decode cX7_finds 35 = .ok (.iload_n 3, 1) := by decide +kernel
theorem dX7_finds_36 : decode cX7_finds 36 = .ok (.aload_n 0, 1) := by decide +kernel
theorem dX7_finds_37 : decode cX7_finds 37 = .ok (.invokevirtual 82, 3) := by decide +kernel
theorem dX7_finds_40 : decode cX7_finds 40 = .ok (.if_icmp .ge 47, 3) := by decide +kernel
theorem dX7_finds_43 : decode cX7_finds 43 = .ok (.iload_n 2, 1) := by decide +kernel
theorem dX7_finds_44 : decode cX7_finds 44 = .ok (.aload_n 0, 1) := by decide +kernel
theorem dX7_finds_45 : decode cX7_finds 45 = .ok (.getfield 92, 3) := by decide +kernel
theorem dX7_finds_48 : decode cX7_finds 48 = .ok (.iload_n 3, 1) := by decide +kernel
theorem dX7_finds_49 : decode cX7_finds 49 = .ok (.ishr, 1) := by decide +kernel
theorem dX7_finds_50 : decode cX7_finds 50 = .ok (.iconst 1, 1) := by decide +kernel
theorem dX7_finds_51 : decode cX7_finds 51 = .ok (.iand, 1) := by decide +kernel
theorem dX7_finds_52 : decode cX7_finds 52 = .ok (.iconst 1, 1) := by decide +kernel
theorem dX7_finds_53 : decode cX7_finds 53 = .ok (.if_icmp .ne 25, 3) := by decide +kernel
theorem dX7_finds_56 : decode cX7_finds 56 = .ok (.aload_n 0, 1) := by decide +kernel
theorem dX7_finds_57 : decode cX7_finds 57 = .ok (.iload_n 3, 1) := by decide +kernel
theorem dX7_finds_58 : decode cX7_finds 58 = .ok (.invokevirtual 98, 3) := by decide +kernel
theorem dX7_finds_61 : decode cX7_finds 61 = .ok (.iconst 1, 1) := by decide +kernel
theorem dX7_finds_62 : decode cX7_finds 62 = .ok (.aload_n 0, 1) := by decide +kernel
theorem dX7_finds_63 : decode cX7_finds 63 = .ok (.getfield 7, 3) := by decide +kernel
theorem dX7_finds_66 : decode cX7_finds 66 = .ok (.iconst 3, 1) := by decide +kernel
theorem dX7_finds_67 : decode cX7_finds 67 = .ok (.iaload, 1) := by decide +kernel
theorem dX7_finds_68 : decode cX7_finds 68 = .ok (.ishl, 1) := by decide +kernel
theorem dX7_finds_69 : decode cX7_finds 69 = .ok (.if_icmp .lt 9, 3) := by decide +kernel
theorem dX7_finds_72 : decode cX7_finds 72 = .ok (.iconst 1, 1) := by decide +kernel
theorem dX7_finds_73 : decode cX7_finds 73 = .ok (.iload_n 3, 1) := by decide +kernel
theorem dX7_finds_74 : decode cX7_finds 74 = .ok (.ishl, 1) := by decide +kernel
theorem dX7_finds_75 : decode cX7_finds 75 = .ok (.goto 4, 3) := by decide +kernel
theorem dX7_finds_78 : decode cX7_finds 78 = .ok (.iconst 0, 1) := by decide +kernel
theorem dX7_finds_79 : decode cX7_finds 79 = .ok (.ior, 1) := by decide +kernel
theorem dX7_finds_80 : decode cX7_finds 80 = .ok (.istore_n 2, 1) := by decide +kernel
theorem dX7_finds_81 : decode cX7_finds 81 = .ok (.iinc 3 1, 3) := by decide +kernel
theorem dX7_finds_84 : decode cX7_finds 84 = .ok (.goto (-49), 3) := by decide +kernel
theorem dX7_finds_87 : decode cX7_finds 87 = .ok (.aload_n 0, 1) := by decide +kernel
theorem dX7_finds_88 : decode cX7_finds 88 = .ok (.iload_n 2, 1) := by decide +kernel
theorem dX7_finds_89 : decode cX7_finds 89 = .ok (.putfield 92, 3) := by decide +kernel
theorem dX7_finds_92 : decode cX7_finds 92 = .ok (.goto (-74), 3) := by decide +kernel
theorem dX7_finds_95 : decode cX7_finds 95 = .ok (.aload_n 0, 1) := by decide +kernel
theorem dX7_finds_96 : decode cX7_finds 96 = .ok (.bipush (-9), 2) := by decide +kernel
theorem dX7_finds_98 : decode cX7_finds 98 = .ok (.putfield 59, 3) := by decide +kernel
theorem dX7_finds_101 : decode cX7_finds 101 = .ok (.aload_n 0, 1) := by decide +kernel
theorem dX7_finds_102 : decode cX7_finds 102 = .ok (.invokevirtual 82, 3) := by decide +kernel
theorem dX7_finds_105 : decode cX7_finds 105 = .ok (.iconst 1, 1) := by decide +kernel
theorem dX7_finds_106 : decode cX7_finds 106 = .ok (.isub, 1) := by decide +kernel
theorem dX7_finds_107 : decode cX7_finds 107 = .ok (.istore_n 2, 1) := by decide +kernel
theorem dX7_finds_108 : decode cX7_finds 108 = .ok (.iload_n 2, 1) := by decide +kernel
theorem dX7_finds_109 : decode cX7_finds 109 = .ok (.ifCond .lt 149, 3) := by decide +kernel
theorem dX7_finds_112 : decode cX7_finds 112 = .ok (.iconst 0, 1) := by decide +kernel
theorem dX7_finds_113 : decode cX7_finds 113 = .ok (.istore_n 3, 1) := by decide +kernel
theorem dX7_finds_114 : decode cX7_finds 114 = .ok (.iconst 0, 1) := by decide +kernel
theorem dX7_finds_115 : decode cX7_finds 115 = .ok (.istore 4, 2) := by decide +kernel
theorem dX7_finds_117 : decode cX7_finds 117 = .ok (.iload 4, 2) := by decide +kernel
theorem dX7_finds_119 : decode cX7_finds 119 = .ok (.aload_n 0, 1) := by decide +kernel
theorem dX7_finds_120 : decode cX7_finds 120 = .ok (.invokevirtual 78, 3) := by decide +kernel
theorem dX7_finds_123 : decode cX7_finds 123 = .ok (.if_icmp .ge 105, 3) := by decide +kernel
theorem dX7_finds_126 : decode cX7_finds 126 = .ok (.aload_n 0, 1) := by decide +kernel
theorem dX7_finds_127 : decode cX7_finds 127 = .ok (.iload_n 2, 1) := by decide +kernel
theorem dX7_finds_128 : decode cX7_finds 128 = .ok (.iload 4, 2) := by decide +kernel
theorem dX7_finds_130 : decode cX7_finds 130 = .ok (.invokevirtual 89, 3) := by decide +kernel
theorem dX7_finds_133 : decode cX7_finds 133 = .ok (.istore 5, 2) := by decide +kernel
theorem dX7_finds_135 : decode cX7_finds 135 = .ok (.aload_n 0, 1) := by decide +kernel
theorem dX7_finds_136 : decode cX7_finds 136 = .ok (.getfield 92, 3) := by decide +kernel
theorem dX7_finds_139 : decode cX7_finds 139 = .ok (.iload_n 2, 1) := by decide +kernel
theorem dX7_finds_140 : decode cX7_finds 140 = .ok (.ishr, 1) := by decide +kernel
theorem dX7_finds_141 : decode cX7_finds 141 = .ok (.iconst 1, 1) := by decide +kernel
theorem dX7_finds_142 : decode cX7_finds 142 = .ok (.iand, 1) := by decide +kernel
theorem dX7_finds_143 : decode cX7_finds 143 = .ok (.iconst 1, 1) := by decide +kernel
theorem dX7_finds_144 : decode cX7_finds 144 = .ok (.if_icmp .ne 39, 3) := by decide +kernel
theorem dX7_finds_147 : decode cX7_finds 147 = .ok (.iload 5, 2) := by decide +kernel
theorem dX7_finds_149 : decode cX7_finds 149 = .ok (.bipush (-9), 2) := by decide +kernel
theorem dX7_finds_151 : decode cX7_finds 151 = .ok (.if_icmp .eq 32, 3) := by decide +kernel
theorem dX7_finds_154 : decode cX7_finds 154 = .ok (.aload_n 0, 1) := by decide +kernel
theorem dX7_finds_155 : decode cX7_finds 155 = .ok (.getfield 92, 3) := by decide +kernel
theorem dX7_finds_158 : decode cX7_finds 158 = .ok (.iload 5, 2) := by decide +kernel
theorem dX7_finds_160 : decode cX7_finds 160 = .ok (.ishr, 1) := by decide +kernel
theorem dX7_finds_161 : decode cX7_finds 161 = .ok (.iconst 1, 1) := by decide +kernel
theorem dX7_finds_162 : decode cX7_finds 162 = .ok (.iand, 1) := by decide +kernel
theorem dX7_finds_163 : decode cX7_finds 163 = .ok (.iconst 1, 1) := by decide +kernel
theorem dX7_finds_164 : decode cX7_finds 164 = .ok (.if_icmp .ne 19, 3) := by decide +kernel
theorem dX7_finds_167 : decode cX7_finds 167 = .ok (.iload_n 3, 1) := by decide +kernel
theorem dX7_finds_168 : decode cX7_finds 168 = .ok (.iconst 1, 1) := by decide +kernel
theorem dX7_finds_169 : decode cX7_finds 169 = .ok (.aload_n 0, 1) := by decide +kernel
theorem dX7_finds_170 : decode cX7_finds 170 = .ok (.getfield 7, 3) := by decide +kernel
theorem dX7_finds_173 : decode cX7_finds 173 = .ok (.iconst 3, 1) := by decide +kernel
theorem dX7_finds_174 : decode cX7_finds 174 = .ok (.iaload, 1) := by decide +kernel
theorem dX7_finds_175 : decode cX7_finds 175 = .ok (.ishl, 1) := by decide +kernel
theorem dX7_finds_176 : decode cX7_finds 176 = .ok (.if_icmp .ge 7, 3) := by decide +kernel
theorem dX7_finds_179 : decode cX7_finds 179 = .ok (.iconst 1, 1) := by decide +kernel
theorem dX7_finds_180 : decode cX7_finds 180 = .ok (.goto 4, 3) := by decide +kernel
theorem dX7_finds_183 : decode cX7_finds 183 = .ok (.iconst 0, 1) := by decide +kernel
theorem dX7_finds_184 : decode cX7_finds 184 = .ok (.istore 6, 2) := by decide +kernel
theorem dX7_finds_186 : decode cX7_finds 186 = .ok (.aload_n 0, 1) := by decide +kernel
theorem dX7_finds_187 : decode cX7_finds 187 = .ok (.getfield 32, 3) := by decide +kernel
theorem dX7_finds_190 : decode cX7_finds 190 = .ok (.bipush 16, 2) := by decide +kernel
theorem dX7_finds_192 : decode cX7_finds 192 = .ok (.iload_n 2, 1) := by decide +kernel
theorem dX7_finds_193 : decode cX7_finds 193 = .ok (.imul, 1) := by decide +kernel
theorem dX7_finds_194 : decode cX7_finds 194 = .ok (.iload 4, 2) := by decide +kernel
theorem dX7_finds_196 : decode cX7_finds 196 = .ok (.iadd, 1) := by decide +kernel
theorem dX7_finds_197 : decode cX7_finds 197 = .ok (.iload 6, 2) := by decide +kernel
theorem dX7_finds_199 : decode cX7_finds 199 = .ok (.ifCond .eq 7, 3) := by decide +kernel
theorem dX7_finds_202 : decode cX7_finds 202 = .ok (.iload_n 3, 1) := by decide +kernel
theorem dX7_finds_203 : decode cX7_finds 203 = .ok (.goto 5, 3) := by decide +kernel
theorem dX7_finds_206 : decode cX7_finds 206 = .ok (.bipush (-9), 2) := by decide +kernel
theorem dX7_finds_208 : decode cX7_finds 208 = .ok (.iastore, 1) := by decide +kernel
theorem dX7_finds_209 : decode cX7_finds 209 = .ok (.iload_n 3, 1) := by decide +kernel
theorem dX7_finds_210 : decode cX7_finds 210 = .ok (.iload 6, 2) := by decide +kernel
theorem dX7_finds_212 : decode cX7_finds 212 = .ok (.ifCond .eq 7, 3) := by decide +kernel
theorem dX7_finds_215 : decode cX7_finds 215 = .ok (.iconst 1, 1) := by decide +kernel
theorem dX7_finds_216 : decode cX7_finds 216 = .ok (.goto 4, 3) := by decide +kernel
theorem dX7_finds_219 : decode cX7_finds 219 = .ok (.iconst 0, 1) := by decide +kernel
theorem dX7_finds_220 : decode cX7_finds 220 = .ok (.iadd, 1) := by decide +kernel
theorem dX7_finds_221 : decode cX7_finds 221 = .ok (.istore_n 3, 1) := by decide +kernel
theorem dX7_finds_222 : decode cX7_finds 222 = .ok (.iinc 4 1, 3) := by decide +kernel
theorem dX7_finds_225 : decode cX7_finds 225 = .ok (.goto (-108), 3) := by decide +kernel
theorem dX7_finds_228 : decode cX7_finds 228 = .ok (.aload_n 0, 1) := by decide +kernel
theorem dX7_finds_229 : decode cX7_finds 229 = .ok (.aload_n 0, 1) := by decide +kernel
theorem dX7_finds_230 : decode cX7_finds 230 = .ok (.getfield 92, 3) := by decide +kernel
theorem dX7_finds_233 : decode cX7_finds 233 = .ok (.iload_n 2, 1) := by decide +kernel
theorem dX7_finds_234 : decode cX7_finds 234 = .ok (.ishr, 1) := by decide +kernel
theorem dX7_finds_235 : decode cX7_finds 235 = .ok (.iconst 1, 1) := by decide +kernel
theorem dX7_finds_236 : decode cX7_finds 236 = .ok (.iand, 1) := by decide +kernel
theorem dX7_finds_237 : decode cX7_finds 237 = .ok (.iconst 1, 1) := by decide +kernel
theorem dX7_finds_238 : decode cX7_finds 238 = .ok (.if_icmp .ne 7, 3) := by decide +kernel
theorem dX7_finds_241 : decode cX7_finds 241 = .ok (.iload_n 2, 1) := by decide +kernel
theorem dX7_finds_242 : decode cX7_finds 242 = .ok (.goto 7, 3) := by decide +kernel
theorem dX7_finds_245 : decode cX7_finds 245 = .ok (.aload_n 0, 1) := by decide +kernel
theorem dX7_finds_246 : decode cX7_finds 246 = .ok (.getfield 59, 3) := by decide +kernel
theorem dX7_finds_249 : decode cX7_finds 249 = .ok (.putfield 59, 3) := by decide +kernel
theorem dX7_finds_252 : decode cX7_finds 252 = .ok (.iinc 2 (-1), 3) := by decide +kernel
theorem dX7_finds_255 : decode cX7_finds 255 = .ok (.goto (-147), 3) := by decide +kernel
theorem dX7_finds_258 : decode cX7_finds 258 = .ok (.return_, 1) := by decide +kernel
theorem dX7_type_0 : decode cX7_type 0 = .ok (.iload_n 1, 1) := by decide +kernel
theorem dX7_type_1 : decode cX7_type 1 = .ok (.i2l, 1) := by decide +kernel
theorem dX7_type_2 : decode cX7_type 2 = .ok (.lconst 0, 1) := by decide +kernel
theorem dX7_type_3 : decode cX7_type 3 = .ok (.ldc2_w 101, 3) := by decide +kernel
theorem dX7_type_6 : decode cX7_type 6 = .ok (.invokestatic 70, 3) := by decide +kernel
theorem dX7_type_9 : decode cX7_type 9 = .ok (.ifCond .ne 5, 3) := by decide +kernel
theorem dX7_type_12 : decode cX7_type 12 = .ok (.iconst (-1), 1) := by decide +kernel
theorem dX7_type_13 : decode cX7_type 13 = .ok (.ireturn, 1) := by decide +kernel
theorem dX7_type_14 : decode cX7_type 14 = .ok (.aload_n 0, 1) := by decide +kernel
theorem dX7_type_15 : decode cX7_type 15 = .ok (.getfield 103, 3) := by decide +kernel
theorem dX7_type_18 : decode cX7_type 18 = .ok (.bipush 60, 2) := by decide +kernel
theorem dX7_type_20 : decode cX7_type 20 = .ok (.if_icmp .ne 6, 3) := by decide +kernel
theorem dX7_type_23 : decode cX7_type 23 = .ok (.bipush (-3), 2) := by decide +kernel
theorem dX7_type_25 : decode cX7_type 25 = .ok (.ireturn, 1) := by decide +kernel
theorem dX7_type_26 : decode cX7_type 26 = .ok (.aload_n 0, 1) := by decide +kernel
theorem dX7_type_27 : decode cX7_type 27 = .ok (.getfield 26, 3) := by decide +kernel
theorem dX7_type_30 : decode cX7_type 30 = .ok (.aload_n 0, 1) := by decide +kernel
theorem dX7_type_31 : decode cX7_type 31 = .ok (.getfield 103, 3) := by decide +kernel
theorem dX7_type_34 : decode cX7_type 34 = .ok (.iload_n 1, 1) := by decide +kernel
theorem dX7_type_35 : decode cX7_type 35 = .ok (.iastore, 1) := by decide +kernel
theorem dX7_type_36 : decode cX7_type 36 = .ok (.aload_n 0, 1) := by decide +kernel
theorem dX7_type_37 : decode cX7_type 37 = .ok (.dup, 1) := by decide +kernel
theorem dX7_type_38 : decode cX7_type 38 = .ok (.getfield 103, 3) := by decide +kernel
theorem dX7_type_41 : decode cX7_type 41 = .ok (.iconst 1, 1) := by decide +kernel
theorem dX7_type_42 : decode cX7_type 42 = .ok (.iadd, 1) := by decide +kernel
theorem dX7_type_43 : decode cX7_type 43 = .ok (.putfield 103, 3) := by decide +kernel
theorem dX7_type_46 : decode cX7_type 46 = .ok (.aload_n 0, 1) := by decide +kernel
theorem dX7_type_47 : decode cX7_type 47 = .ok (.getfield 103, 3) := by decide +kernel
theorem dX7_type_50 : decode cX7_type 50 = .ok (.ireturn, 1) := by decide +kernel
theorem dX7_clear_0 : decode cX7_clear 0 = .ok (.aload_n 0, 1) := by decide +kernel
theorem dX7_clear_1 : decode cX7_clear 1 = .ok (.getfield 103, 3) := by decide +kernel
theorem dX7_clear_4 : decode cX7_clear 4 = .ok (.istore_n 1, 1) := by decide +kernel
theorem dX7_clear_5 : decode cX7_clear 5 = .ok (.aload_n 0, 1) := by decide +kernel
theorem dX7_clear_6 : decode cX7_clear 6 = .ok (.iconst 0, 1) := by decide +kernel
theorem dX7_clear_7 : decode cX7_clear 7 = .ok (.putfield 103, 3) := by decide +kernel
theorem dX7_clear_10 : decode cX7_clear 10 = .ok (.iload_n 1, 1) := by decide +kernel
theorem dX7_clear_11 : decode cX7_clear 11 = .ok (.ireturn, 1) := by decide +kernel
theorem dX7_here_0 : decode cX7_here 0 = .ok (.aload_n 0, 1) := by decide +kernel
theorem dX7_here_1 : decode cX7_here 1 = .ok (.getfield 106, 3) := by decide +kernel
theorem dX7_here_4 : decode cX7_here 4 = .ok (.aload_n 0, 1) := by decide +kernel
theorem dX7_here_5 : decode cX7_here 5 = .ok (.getfield 103, 3) := by decide +kernel
theorem dX7_here_8 : decode cX7_here 8 = .ok (.if_icmp .ge 30, 3) := by decide +kernel
theorem dX7_here_11 : decode cX7_here 11 = .ok (.aload_n 0, 1) := by decide +kernel
theorem dX7_here_12 : decode cX7_here 12 = .ok (.getfield 26, 3) := by decide +kernel
theorem dX7_here_15 : decode cX7_here 15 = .ok (.aload_n 0, 1) := by decide +kernel
theorem dX7_here_16 : decode cX7_here 16 = .ok (.getfield 106, 3) := by decide +kernel
theorem dX7_here_19 : decode cX7_here 19 = .ok (.iaload, 1) := by decide +kernel
theorem dX7_here_20 : decode cX7_here 20 = .ok (.bipush 32, 2) := by decide +kernel
theorem dX7_here_22 : decode cX7_here 22 = .ok (.if_icmp .ne 16, 3) := by decide +kernel
theorem dX7_here_25 : decode cX7_here 25 = .ok (.aload_n 0, 1) := by decide +kernel
theorem dX7_here_26 : decode cX7_here 26 = .ok (.dup, 1) := by decide +kernel
theorem dX7_here_27 : decode cX7_here 27 = .ok (.getfield 106, 3) := by decide +kernel
theorem dX7_here_30 : decode cX7_here 30 = .ok (.iconst 1, 1) := by decide +kernel
theorem dX7_here_31 : decode cX7_here 31 = .ok (.iadd, 1) := by decide +kernel
theorem dX7_here_32 : decode cX7_here 32 = .ok (.putfield 106, 3) := by decide +kernel
theorem dX7_here_35 : decode cX7_here 35 = .ok (.goto (-35), 3) := by decide +kernel
theorem dX7_here_38 : decode cX7_here 38 = .ok (.aload_n 0, 1) := by decide +kernel
theorem dX7_here_39 : decode cX7_here 39 = .ok (.getfield 106, 3) := by decide +kernel
theorem dX7_here_42 : decode cX7_here 42 = .ok (.aload_n 0, 1) := by decide +kernel
theorem dX7_here_43 : decode cX7_here 43 = .ok (.getfield 103, 3) := by decide +kernel
theorem dX7_here_46 : decode cX7_here 46 = .ok (.if_icmp .ge 15, 3) := by decide +kernel
theorem dX7_here_49 : decode cX7_here 49 = .ok (.aload_n 0, 1) := by decide +kernel
theorem dX7_here_50 : decode cX7_here 50 = .ok (.getfield 26, 3) := by decide +kernel
theorem dX7_here_53 : decode cX7_here 53 = .ok (.aload_n 0, 1) := by decide +kernel
theorem dX7_here_54 : decode cX7_here 54 = .ok (.getfield 106, 3) := by decide +kernel
theorem dX7_here_57 : decode cX7_here 57 = .ok (.iaload, 1) := by decide +kernel
theorem dX7_here_58 : decode cX7_here 58 = .ok (.goto 4, 3) := by decide +kernel
theorem dX7_here_61 : decode cX7_here 61 = .ok (.iconst (-1), 1) := by decide +kernel
theorem dX7_here_62 : decode cX7_here 62 = .ok (.ireturn, 1) := by decide +kernel
theorem dX7_isFigure_0 : decode cX7_isFigure 0 = .ok (.iload_n 1, 1) := by decide +kernel
theorem dX7_isFigure_1 : decode cX7_isFigure 1 = .ok (.aload_n 0, 1) := by decide +kernel
theorem dX7_isFigure_2 : decode cX7_isFigure 2 = .ok (.getfield 103, 3) := by decide +kernel
theorem dX7_isFigure_5 : decode cX7_isFigure 5 = .ok (.if_icmp .ge 26, 3) := by decide +kernel
theorem dX7_isFigure_8 : decode cX7_isFigure 8 = .ok (.aload_n 0, 1) := by decide +kernel
theorem dX7_isFigure_9 : decode cX7_isFigure 9 = .ok (.getfield 26, 3) := by decide +kernel
theorem dX7_isFigure_12 : decode cX7_isFigure 12 = .ok (.iload_n 1, 1) := by decide +kernel
theorem dX7_isFigure_13 : decode cX7_isFigure 13 = .ok (.iaload, 1) := by decide +kernel
theorem dX7_isFigure_14 : decode cX7_isFigure 14 = .ok (.i2l, 1) := by decide +kernel
theorem dX7_isFigure_15 : decode cX7_isFigure 15 = .ok (.ldc2_w 109, 3) := by decide +kernel
theorem dX7_isFigure_18 : decode cX7_isFigure 18 = .ok (.ldc2_w 111, 3) := by decide +kernel
theorem dX7_isFigure_21 : decode cX7_isFigure 21 = .ok (.invokestatic 70, 3) := by decide +kernel
theorem dX7_isFigure_24 : decode cX7_isFigure 24 = .ok (.ifCond .eq 7, 3) := by decide +kernel
theorem dX7_isFigure_27 : decode cX7_isFigure 27 = .ok (.iconst 1, 1) := by decide +kernel
theorem dX7_isFigure_28 : decode cX7_isFigure 28 = .ok (.goto 4, 3) := by decide +kernel
theorem dX7_isFigure_31 : decode cX7_isFigure 31 = .ok (.iconst 0, 1) := by decide +kernel
theorem dX7_isFigure_32 : decode cX7_isFigure 32 = .ok (.ireturn, 1) := by decide +kernel
theorem dX7_takes_0 : decode cX7_takes 0 = .ok (.aload_n 0, 1) := by decide +kernel
theorem dX7_takes_1 : decode cX7_takes 1 = .ok (.invokevirtual 113, 3) := by decide +kernel
theorem dX7_takes_4 : decode cX7_takes 4 = .ok (.iload_n 1, 1) := by decide +kernel
theorem dX7_takes_5 : decode cX7_takes 5 = .ok (.if_icmp .eq 5, 3) := by decide +kernel
theorem dX7_takes_8 : decode cX7_takes 8 = .ok (.iconst 0, 1) := by decide +kernel
theorem dX7_takes_9 : decode cX7_takes 9 = .ok (.ireturn, 1) := by decide +kernel
theorem dX7_takes_10 : decode cX7_takes 10 = .ok (.aload_n 0, 1) := by decide +kernel
theorem dX7_takes_11 : decode cX7_takes 11 = .ok (.dup, 1) := by decide +kernel
theorem dX7_takes_12 : decode cX7_takes 12 = .ok (.getfield 106, 3) := by decide +kernel
theorem dX7_takes_15 : decode cX7_takes 15 = .ok (.iconst 1, 1) := by decide +kernel
theorem dX7_takes_16 : decode cX7_takes 16 = .ok (.iadd, 1) := by decide +kernel
theorem dX7_takes_17 : decode cX7_takes 17 = .ok (.putfield 106, 3) := by decide +kernel
theorem dX7_takes_20 : decode cX7_takes 20 = .ok (.iconst 1, 1) := by decide +kernel
theorem dX7_takes_21 : decode cX7_takes 21 = .ok (.ireturn, 1) := by decide +kernel
theorem dX7_takesNumber_0 : decode cX7_takesNumber 0 = .ok (.aload_n 0, 1) := by decide +kernel
theorem dX7_takesNumber_1 : decode cX7_takesNumber 1 = .ok (.invokevirtual 113, 3) := by decide +kernel
theorem dX7_takesNumber_4 : decode cX7_takesNumber 4 = .ok (.istore_n 3, 1) := by decide +kernel
theorem dX7_takesNumber_5 : decode cX7_takesNumber 5 = .ok (.aload_n 0, 1) := by decide +kernel
theorem dX7_takesNumber_6 : decode cX7_takesNumber 6 = .ok (.aload_n 0, 1) := by decide +kernel
theorem dX7_takesNumber_7 : decode cX7_takesNumber 7 = .ok (.getfield 106, 3) := by decide +kernel
theorem dX7_takesNumber_10 : decode cX7_takesNumber 10 = .ok (.invokevirtual 116, 3) := by decide +kernel
theorem dX7_takesNumber_13 : decode cX7_takesNumber 13 = .ok (.ifCond .eq 31, 3) := by decide +kernel
theorem dX7_takesNumber_16 : decode cX7_takesNumber 16 = .ok (.aload_n 0, 1) := by decide +kernel
theorem dX7_takesNumber_17 : decode cX7_takesNumber 17 = .ok (.aload_n 0, 1) := by decide +kernel
theorem dX7_takesNumber_18 : decode cX7_takesNumber 18 = .ok (.getfield 106, 3) := by decide +kernel
theorem dX7_takesNumber_21 : decode cX7_takesNumber 21 = .ok (.iconst 1, 1) := by decide +kernel
theorem dX7_takesNumber_22 : decode cX7_takesNumber 22 = .ok (.iadd, 1) := by decide +kernel
theorem dX7_takesNumber_23 : decode cX7_takesNumber 23 = .ok (.invokevirtual 116, 3) := by decide +kernel
theorem dX7_takesNumber_26 : decode cX7_takesNumber 26 = .ok (.ifCond .ne 18, 3) := by decide +kernel
theorem dX7_takesNumber_29 : decode cX7_takesNumber 29 = .ok (.iload_n 3, 1) := by decide +kernel
theorem dX7_takesNumber_30 : decode cX7_takesNumber 30 = .ok (.bipush 48, 2) := by decide +kernel
theorem dX7_takesNumber_32 : decode cX7_takesNumber 32 = .ok (.isub, 1) := by decide +kernel
theorem dX7_takesNumber_33 : decode cX7_takesNumber 33 = .ok (.i2l, 1) := by decide +kernel
theorem dX7_takesNumber_34 : decode cX7_takesNumber 34 = .ok (.iload_n 1, 1) := by decide +kernel
theorem dX7_takesNumber_35 : decode cX7_takesNumber 35 = .ok (.i2l, 1) := by decide +kernel
theorem dX7_takesNumber_36 : decode cX7_takesNumber 36 = .ok (.iload_n 2, 1) := by decide +kernel
theorem dX7_takesNumber_37 : decode cX7_takesNumber 37 = .ok (.i2l, 1) := by decide +kernel
theorem dX7_takesNumber_38 : decode cX7_takesNumber 38 = .ok (.invokestatic 70, 3) := by decide +kernel
theorem dX7_takesNumber_41 : decode cX7_takesNumber 41 = .ok (.ifCond .ne 5, 3) := by decide +kernel
theorem dX7_takesNumber_44 : decode cX7_takesNumber 44 = .ok (.iconst 0, 1) := by decide +kernel
theorem dX7_takesNumber_45 : decode cX7_takesNumber 45 = .ok (.ireturn, 1) := by decide +kernel
theorem dX7_takesNumber_46 : decode cX7_takesNumber 46 = .ok (.aload_n 0, 1) := by decide +kernel
theorem dX7_takesNumber_47 : decode cX7_takesNumber 47 = .ok (.iload_n 3, 1) := by decide +kernel
theorem dX7_takesNumber_48 : decode cX7_takesNumber 48 = .ok (.bipush 48, 2) := by decide +kernel
theorem dX7_takesNumber_50 : decode cX7_takesNumber 50 = .ok (.isub, 1) := by decide +kernel
theorem dX7_takesNumber_51 : decode cX7_takesNumber 51 = .ok (.putfield 120, 3) := by decide +kernel
theorem dX7_takesNumber_54 : decode cX7_takesNumber 54 = .ok (.aload_n 0, 1) := by decide +kernel
theorem dX7_takesNumber_55 : decode cX7_takesNumber 55 = .ok (.dup, 1) := by decide +kernel
theorem dX7_takesNumber_56 : decode cX7_takesNumber 56 = .ok (.getfield 106, 3) := by decide +kernel
theorem dX7_takesNumber_59 : decode cX7_takesNumber 59 = .ok (.iconst 1, 1) := by decide +kernel
theorem dX7_takesNumber_60 : decode cX7_takesNumber 60 = .ok (.iadd, 1) := by decide +kernel
theorem dX7_takesNumber_61 : decode cX7_takesNumber 61 = .ok (.putfield 106, 3) := by decide +kernel
theorem dX7_takesNumber_64 : decode cX7_takesNumber 64 = .ok (.iconst 1, 1) := by decide +kernel
theorem dX7_takesNumber_65 : decode cX7_takesNumber 65 = .ok (.ireturn, 1) := by decide +kernel
theorem dX7_takesBits_0 : decode cX7_takesBits 0 = .ok (.aload_n 0, 1) := by decide +kernel
theorem dX7_takesBits_1 : decode cX7_takesBits 1 = .ok (.invokevirtual 113, 3) := by decide +kernel
theorem dX7_takesBits_4 : decode cX7_takesBits 4 = .ok (.istore_n 1, 1) := by decide +kernel
theorem dX7_takesBits_5 : decode cX7_takesBits 5 = .ok (.iconst 0, 1) := by decide +kernel
theorem dX7_takesBits_6 : decode cX7_takesBits 6 = .ok (.istore_n 2, 1) := by decide +kernel
theorem dX7_takesBits_7 : decode cX7_takesBits 7 = .ok (.iconst 0, 1) := by decide +kernel
theorem dX7_takesBits_8 : decode cX7_takesBits 8 = .ok (.istore_n 3, 1) := by decide +kernel
theorem dX7_takesBits_9 : decode cX7_takesBits 9 = .ok (.iconst 1, 1) := by decide +kernel
theorem dX7_takesBits_10 : decode cX7_takesBits 10 = .ok (.istore 4, 2) := by decide +kernel
theorem dX7_takesBits_12 : decode cX7_takesBits 12 = .ok (.aload_n 0, 1) := by decide +kernel
theorem dX7_takesBits_13 : decode cX7_takesBits 13 = .ok (.aload_n 0, 1) := by decide +kernel
theorem dX7_takesBits_14 : decode cX7_takesBits 14 = .ok (.getfield 106, 3) := by decide +kernel
theorem dX7_takesBits_17 : decode cX7_takesBits 17 = .ok (.iload_n 2, 1) := by decide +kernel
theorem dX7_takesBits_18 : decode cX7_takesBits 18 = .ok (.iadd, 1) := by decide +kernel
theorem dX7_takesBits_19 : decode cX7_takesBits 19 = .ok (.invokevirtual 116, 3) := by decide +kernel
theorem dX7_takesBits_22 : decode cX7_takesBits 22 = .ok (.ifCond .eq 70, 3) := by decide +kernel
theorem dX7_takesBits_25 : decode cX7_takesBits 25 = .ok (.iload 4, 2) := by decide +kernel
theorem dX7_takesBits_27 : decode cX7_takesBits 27 = .ok (.ifCond .eq 28, 3) := by decide +kernel
theorem dX7_takesBits_30 : decode cX7_takesBits 30 = .ok (.aload_n 0, 1) := by decide +kernel
theorem dX7_takesBits_31 : decode cX7_takesBits 31 = .ok (.getfield 26, 3) := by decide +kernel
theorem dX7_takesBits_34 : decode cX7_takesBits 34 = .ok (.aload_n 0, 1) := by decide +kernel
theorem dX7_takesBits_35 : decode cX7_takesBits 35 = .ok (.getfield 106, 3) := by decide +kernel
theorem dX7_takesBits_38 : decode cX7_takesBits 38 = .ok (.iload_n 2, 1) := by decide +kernel
theorem dX7_takesBits_39 : decode cX7_takesBits 39 = .ok (.iadd, 1) := by decide +kernel
theorem dX7_takesBits_40 : decode cX7_takesBits 40 = .ok (.iaload, 1) := by decide +kernel
theorem dX7_takesBits_41 : decode cX7_takesBits 41 = .ok (.bipush 50, 2) := by decide +kernel
theorem dX7_takesBits_43 : decode cX7_takesBits 43 = .ok (.if_icmp .ge 12, 3) := by decide +kernel
theorem dX7_takesBits_46 : decode cX7_takesBits 46 = .ok (.iload_n 2, 1) := by decide +kernel
theorem dX7_takesBits_47 : decode cX7_takesBits 47 = .ok (.iconst 5, 1) := by decide +kernel
theorem dX7_takesBits_48 : decode cX7_takesBits 48 = .ok (.if_icmp .ge 7, 3) := by decide +kernel
theorem dX7_takesBits_51 : decode cX7_takesBits 51 = .ok (.iconst 1, 1) := by decide +kernel
theorem dX7_takesBits_52 : decode cX7_takesBits 52 = .ok (.goto 4, 3) := by decide +kernel
theorem dX7_takesBits_55 : decode cX7_takesBits 55 = .ok (.iconst 0, 1) := by decide +kernel
theorem dX7_takesBits_56 : decode cX7_takesBits 56 = .ok (.istore 4, 2) := by decide +kernel
theorem dX7_takesBits_58 : decode cX7_takesBits 58 = .ok (.iload 4, 2) := by decide +kernel
theorem dX7_takesBits_60 : decode cX7_takesBits 60 = .ok (.ifCond .eq 24, 3) := by decide +kernel
theorem dX7_takesBits_63 : decode cX7_takesBits 63 = .ok (.iconst 2, 1) := by decide +kernel
theorem dX7_takesBits_64 : decode cX7_takesBits 64 = .ok (.iload_n 3, 1) := by decide +kernel
theorem dX7_takesBits_65 : decode cX7_takesBits 65 = .ok (.imul, 1) := by decide +kernel
theorem dX7_takesBits_66 : decode cX7_takesBits 66 = .ok (.aload_n 0, 1) := by decide +kernel
theorem dX7_takesBits_67 : decode cX7_takesBits 67 = .ok (.getfield 26, 3) := by decide +kernel
theorem dX7_takesBits_70 : decode cX7_takesBits 70 = .ok (.aload_n 0, 1) := by decide +kernel
theorem dX7_takesBits_71 : decode cX7_takesBits 71 = .ok (.getfield 106, 3) := by decide +kernel
theorem dX7_takesBits_74 : decode cX7_takesBits 74 = .ok (.iload_n 2, 1) := by decide +kernel
theorem dX7_takesBits_75 : decode cX7_takesBits 75 = .ok (.iadd, 1) := by decide +kernel
theorem dX7_takesBits_76 : decode cX7_takesBits 76 = .ok (.iaload, 1) := by decide +kernel
theorem dX7_takesBits_77 : decode cX7_takesBits 77 = .ok (.iadd, 1) := by decide +kernel
theorem dX7_takesBits_78 : decode cX7_takesBits 78 = .ok (.bipush 48, 2) := by decide +kernel
theorem dX7_takesBits_80 : decode cX7_takesBits 80 = .ok (.isub, 1) := by decide +kernel
theorem dX7_takesBits_81 : decode cX7_takesBits 81 = .ok (.goto 4, 3) := by decide +kernel
theorem dX7_takesBits_84 : decode cX7_takesBits 84 = .ok (.iload_n 3, 1) := by decide +kernel
theorem dX7_takesBits_85 : decode cX7_takesBits 85 = .ok (.istore_n 3, 1) := by decide +kernel
theorem dX7_takesBits_86 : decode cX7_takesBits 86 = .ok (.iinc 2 1, 3) := by decide +kernel
theorem dX7_takesBits_89 : decode cX7_takesBits 89 = .ok (.goto (-77), 3) := by decide +kernel
theorem dX7_takesBits_92 : decode cX7_takesBits 92 = .ok (.iload 4, 2) := by decide +kernel
theorem dX7_takesBits_94 : decode cX7_takesBits 94 = .ok (.ifCond .eq 8, 3) := by decide +kernel
theorem dX7_takesBits_97 : decode cX7_takesBits 97 = .ok (.iload_n 2, 1) := by decide +kernel
theorem dX7_takesBits_98 : decode cX7_takesBits 98 = .ok (.iconst 2, 1) := by decide +kernel
theorem dX7_takesBits_99 : decode cX7_takesBits 99 = .ok (.if_icmp .ge 5, 3) := by decide +kernel
theorem dX7_takesBits_102 : decode cX7_takesBits 102 = .ok (.iconst 0, 1) := by decide +kernel
theorem dX7_takesBits_103 : decode cX7_takesBits 103 = .ok (.ireturn, 1) := by decide +kernel
theorem dX7_takesBits_104 : decode cX7_takesBits 104 = .ok (.aload_n 0, 1) := by decide +kernel
theorem dX7_takesBits_105 : decode cX7_takesBits 105 = .ok (.getfield 35, 3) := by decide +kernel
theorem dX7_takesBits_108 : decode cX7_takesBits 108 = .ok (.iconst 1, 1) := by decide +kernel
theorem dX7_takesBits_109 : decode cX7_takesBits 109 = .ok (.iload_n 2, 1) := by decide +kernel
theorem dX7_takesBits_110 : decode cX7_takesBits 110 = .ok (.iastore, 1) := by decide +kernel
theorem dX7_takesBits_111 : decode cX7_takesBits 111 = .ok (.aload_n 0, 1) := by decide +kernel
theorem dX7_takesBits_112 : decode cX7_takesBits 112 = .ok (.getfield 35, 3) := by decide +kernel
theorem dX7_takesBits_115 : decode cX7_takesBits 115 = .ok (.iconst 2, 1) := by decide +kernel
theorem dX7_takesBits_116 : decode cX7_takesBits 116 = .ok (.iload_n 3, 1) := by decide +kernel
theorem dX7_takesBits_117 : decode cX7_takesBits 117 = .ok (.iastore, 1) := by decide +kernel
theorem dX7_takesBits_118 : decode cX7_takesBits 118 = .ok (.aload_n 0, 1) := by decide +kernel
theorem dX7_takesBits_119 : decode cX7_takesBits 119 = .ok (.dup, 1) := by decide +kernel
theorem dX7_takesBits_120 : decode cX7_takesBits 120 = .ok (.getfield 106, 3) := by decide +kernel
theorem dX7_takesBits_123 : decode cX7_takesBits 123 = .ok (.iload_n 2, 1) := by decide +kernel
theorem dX7_takesBits_124 : decode cX7_takesBits 124 = .ok (.iadd, 1) := by decide +kernel
theorem dX7_takesBits_125 : decode cX7_takesBits 125 = .ok (.putfield 106, 3) := by decide +kernel
theorem dX7_takesBits_128 : decode cX7_takesBits 128 = .ok (.iconst 1, 1) := by decide +kernel
theorem dX7_takesBits_129 : decode cX7_takesBits 129 = .ok (.ireturn, 1) := by decide +kernel
theorem dX7_takesBan_0 : decode cX7_takesBan 0 = .ok (.aload_n 0, 1) := by decide +kernel
theorem dX7_takesBan_1 : decode cX7_takesBan 1 = .ok (.bipush 114, 2) := by decide +kernel
theorem dX7_takesBan_3 : decode cX7_takesBan 3 = .ok (.invokevirtual 123, 3) := by decide +kernel
theorem dX7_takesBan_6 : decode cX7_takesBan 6 = .ok (.ifCond .eq 69, 3) := by decide +kernel
theorem dX7_takesBan_9 : decode cX7_takesBan 9 = .ok (.aload_n 0, 1) := by decide +kernel
theorem dX7_takesBan_10 : decode cX7_takesBan 10 = .ok (.getfield 35, 3) := by decide +kernel
theorem dX7_takesBan_13 : decode cX7_takesBan 13 = .ok (.iconst 0, 1) := by decide +kernel
theorem dX7_takesBan_14 : decode cX7_takesBan 14 = .ok (.iconst 0, 1) := by decide +kernel
theorem dX7_takesBan_15 : decode cX7_takesBan 15 = .ok (.iastore, 1) := by decide +kernel
theorem dX7_takesBan_16 : decode cX7_takesBan 16 = .ok (.aload_n 0, 1) := by decide +kernel
theorem dX7_takesBan_17 : decode cX7_takesBan 17 = .ok (.iconst 0, 1) := by decide +kernel
theorem dX7_takesBan_18 : decode cX7_takesBan 18 = .ok (.iconst 3, 1) := by decide +kernel
theorem dX7_takesBan_19 : decode cX7_takesBan 19 = .ok (.invokevirtual 126, 3) := by decide +kernel
theorem dX7_takesBan_22 : decode cX7_takesBan 22 = .ok (.ifCond .ne 5, 3) := by decide +kernel
theorem dX7_takesBan_25 : decode cX7_takesBan 25 = .ok (.iconst 0, 1) := by decide +kernel
theorem dX7_takesBan_26 : decode cX7_takesBan 26 = .ok (.ireturn, 1) := by decide +kernel
theorem dX7_takesBan_27 : decode cX7_takesBan 27 = .ok (.aload_n 0, 1) := by decide +kernel
theorem dX7_takesBan_28 : decode cX7_takesBan 28 = .ok (.getfield 35, 3) := by decide +kernel
theorem dX7_takesBan_31 : decode cX7_takesBan 31 = .ok (.iconst 1, 1) := by decide +kernel
theorem dX7_takesBan_32 : decode cX7_takesBan 32 = .ok (.aload_n 0, 1) := by decide +kernel
theorem dX7_takesBan_33 : decode cX7_takesBan 33 = .ok (.getfield 120, 3) := by decide +kernel
theorem dX7_takesBan_36 : decode cX7_takesBan 36 = .ok (.iastore, 1) := by decide +kernel
theorem dX7_takesBan_37 : decode cX7_takesBan 37 = .ok (.aload_n 0, 1) := by decide +kernel
theorem dX7_takesBan_38 : decode cX7_takesBan 38 = .ok (.aload_n 0, 1) := by decide +kernel
theorem dX7_takesBan_39 : decode cX7_takesBan 39 = .ok (.getfield 120, 3) := by decide +kernel
theorem dX7_takesBan_42 : decode cX7_takesBan 42 = .ok (.iconst 1, 1) := by decide +kernel
theorem dX7_takesBan_43 : decode cX7_takesBan 43 = .ok (.if_icmp .le 10, 3) := by decide +kernel
theorem dX7_takesBan_46 : decode cX7_takesBan 46 = .ok (.aload_n 0, 1) := by decide +kernel
theorem dX7_takesBan_47 : decode cX7_takesBan 47 = .ok (.getfield 120, 3) := by decide +kernel
theorem dX7_takesBan_50 : decode cX7_takesBan 50 = .ok (.goto 4, 3) := by decide +kernel
theorem dX7_takesBan_53 : decode cX7_takesBan 53 = .ok (.iconst 1, 1) := by decide +kernel
theorem dX7_takesBan_54 : decode cX7_takesBan 54 = .ok (.iconst 5, 1) := by decide +kernel
theorem dX7_takesBan_55 : decode cX7_takesBan 55 = .ok (.invokevirtual 126, 3) := by decide +kernel
theorem dX7_takesBan_58 : decode cX7_takesBan 58 = .ok (.ifCond .ne 5, 3) := by decide +kernel
theorem dX7_takesBan_61 : decode cX7_takesBan 61 = .ok (.iconst 0, 1) := by decide +kernel
theorem dX7_takesBan_62 : decode cX7_takesBan 62 = .ok (.ireturn, 1) := by decide +kernel
theorem dX7_takesBan_63 : decode cX7_takesBan 63 = .ok (.aload_n 0, 1) := by decide +kernel
theorem dX7_takesBan_64 : decode cX7_takesBan 64 = .ok (.getfield 35, 3) := by decide +kernel
theorem dX7_takesBan_67 : decode cX7_takesBan 67 = .ok (.iconst 2, 1) := by decide +kernel
theorem dX7_takesBan_68 : decode cX7_takesBan 68 = .ok (.aload_n 0, 1) := by decide +kernel
theorem dX7_takesBan_69 : decode cX7_takesBan 69 = .ok (.getfield 120, 3) := by decide +kernel
theorem dX7_takesBan_72 : decode cX7_takesBan 72 = .ok (.iastore, 1) := by decide +kernel
theorem dX7_takesBan_73 : decode cX7_takesBan 73 = .ok (.iconst 1, 1) := by decide +kernel
theorem dX7_takesBan_74 : decode cX7_takesBan 74 = .ok (.ireturn, 1) := by decide +kernel
theorem dX7_takesBan_75 : decode cX7_takesBan 75 = .ok (.aload_n 0, 1) := by decide +kernel
theorem dX7_takesBan_76 : decode cX7_takesBan 76 = .ok (.bipush 99, 2) := by decide +kernel
theorem dX7_takesBan_78 : decode cX7_takesBan 78 = .ok (.invokevirtual 123, 3) := by decide +kernel
theorem dX7_takesBan_81 : decode cX7_takesBan 81 = .ok (.ifCond .eq 40, 3) := by decide +kernel
theorem dX7_takesBan_84 : decode cX7_takesBan 84 = .ok (.aload_n 0, 1) := by decide +kernel
theorem dX7_takesBan_85 : decode cX7_takesBan 85 = .ok (.getfield 35, 3) := by decide +kernel
theorem dX7_takesBan_88 : decode cX7_takesBan 88 = .ok (.iconst 0, 1) := by decide +kernel
theorem dX7_takesBan_89 : decode cX7_takesBan 89 = .ok (.iconst 1, 1) := by decide +kernel
theorem dX7_takesBan_90 : decode cX7_takesBan 90 = .ok (.iastore, 1) := by decide +kernel
theorem dX7_takesBan_91 : decode cX7_takesBan 91 = .ok (.aload_n 0, 1) := by decide +kernel
theorem dX7_takesBan_92 : decode cX7_takesBan 92 = .ok (.iconst 1, 1) := by decide +kernel
theorem dX7_takesBan_93 : decode cX7_takesBan 93 = .ok (.iconst 3, 1) := by decide +kernel
theorem dX7_takesBan_94 : decode cX7_takesBan 94 = .ok (.invokevirtual 126, 3) := by decide +kernel
theorem dX7_takesBan_97 : decode cX7_takesBan 97 = .ok (.ifCond .ne 5, 3) := by decide +kernel
theorem dX7_takesBan_100 : decode cX7_takesBan 100 = .ok (.iconst 0, 1) := by decide +kernel
theorem dX7_takesBan_101 : decode cX7_takesBan 101 = .ok (.ireturn, 1) := by decide +kernel
theorem dX7_takesBan_102 : decode cX7_takesBan 102 = .ok (.aload_n 0, 1) := by decide +kernel
theorem dX7_takesBan_103 : decode cX7_takesBan 103 = .ok (.getfield 35, 3) := by decide +kernel
theorem dX7_takesBan_106 : decode cX7_takesBan 106 = .ok (.iconst 1, 1) := by decide +kernel
theorem dX7_takesBan_107 : decode cX7_takesBan 107 = .ok (.aload_n 0, 1) := by decide +kernel
theorem dX7_takesBan_108 : decode cX7_takesBan 108 = .ok (.getfield 120, 3) := by decide +kernel
theorem dX7_takesBan_111 : decode cX7_takesBan 111 = .ok (.iastore, 1) := by decide +kernel
theorem dX7_takesBan_112 : decode cX7_takesBan 112 = .ok (.aload_n 0, 1) := by decide +kernel
theorem dX7_takesBan_113 : decode cX7_takesBan 113 = .ok (.getfield 35, 3) := by decide +kernel
theorem dX7_takesBan_116 : decode cX7_takesBan 116 = .ok (.iconst 2, 1) := by decide +kernel
theorem dX7_takesBan_117 : decode cX7_takesBan 117 = .ok (.iconst 0, 1) := by decide +kernel
theorem dX7_takesBan_118 : decode cX7_takesBan 118 = .ok (.iastore, 1) := by decide +kernel
theorem dX7_takesBan_119 : decode cX7_takesBan 119 = .ok (.iconst 1, 1) := by decide +kernel
theorem dX7_takesBan_120 : decode cX7_takesBan 120 = .ok (.ireturn, 1) := by decide +kernel
theorem dX7_takesBan_121 : decode cX7_takesBan 121 = .ok (.aload_n 0, 1) := by decide +kernel
theorem dX7_takesBan_122 : decode cX7_takesBan 122 = .ok (.getfield 35, 3) := by decide +kernel
theorem dX7_takesBan_125 : decode cX7_takesBan 125 = .ok (.iconst 0, 1) := by decide +kernel
theorem dX7_takesBan_126 : decode cX7_takesBan 126 = .ok (.iconst 2, 1) := by decide +kernel
theorem dX7_takesBan_127 : decode cX7_takesBan 127 = .ok (.iastore, 1) := by decide +kernel
theorem dX7_takesBan_128 : decode cX7_takesBan 128 = .ok (.aload_n 0, 1) := by decide +kernel
theorem dX7_takesBan_129 : decode cX7_takesBan 129 = .ok (.bipush 98, 2) := by decide +kernel
theorem dX7_takesBan_131 : decode cX7_takesBan 131 = .ok (.invokevirtual 123, 3) := by decide +kernel
theorem dX7_takesBan_134 : decode cX7_takesBan 134 = .ok (.ifCond .eq 14, 3) := by decide +kernel
theorem dX7_takesBan_137 : decode cX7_takesBan 137 = .ok (.aload_n 0, 1) := by decide +kernel
theorem dX7_takesBan_138 : decode cX7_takesBan 138 = .ok (.invokevirtual 130, 3) := by decide +kernel
theorem dX7_takesBan_141 : decode cX7_takesBan 141 = .ok (.ifCond .eq 7, 3) := by decide +kernel
theorem dX7_takesBan_144 : decode cX7_takesBan 144 = .ok (.iconst 1, 1) := by decide +kernel
theorem dX7_takesBan_145 : decode cX7_takesBan 145 = .ok (.goto 4, 3) := by decide +kernel
theorem dX7_takesBan_148 : decode cX7_takesBan 148 = .ok (.iconst 0, 1) := by decide +kernel
theorem dX7_takesBan_149 : decode cX7_takesBan 149 = .ok (.ireturn, 1) := by decide +kernel
theorem dX7_takesAll_0 : decode cX7_takesAll 0 = .ok (.aload_n 0, 1) := by decide +kernel
theorem dX7_takesAll_1 : decode cX7_takesAll 1 = .ok (.iconst 0, 1) := by decide +kernel
theorem dX7_takesAll_2 : decode cX7_takesAll 2 = .ok (.putfield 106, 3) := by decide +kernel
theorem dX7_takesAll_5 : decode cX7_takesAll 5 = .ok (.aload_n 0, 1) := by decide +kernel
theorem dX7_takesAll_6 : decode cX7_takesAll 6 = .ok (.getfield 35, 3) := by decide +kernel
theorem dX7_takesAll_9 : decode cX7_takesAll 9 = .ok (.iconst 3, 1) := by decide +kernel
theorem dX7_takesAll_10 : decode cX7_takesAll 10 = .ok (.iconst 1, 1) := by decide +kernel
theorem dX7_takesAll_11 : decode cX7_takesAll 11 = .ok (.iastore, 1) := by decide +kernel
theorem dX7_takesAll_12 : decode cX7_takesAll 12 = .ok (.aload_n 0, 1) := by decide +kernel
theorem dX7_takesAll_13 : decode cX7_takesAll 13 = .ok (.getfield 35, 3) := by decide +kernel
theorem dX7_takesAll_16 : decode cX7_takesAll 16 = .ok (.iconst 4, 1) := by decide +kernel
theorem dX7_takesAll_17 : decode cX7_takesAll 17 = .ok (.iconst 2, 1) := by decide +kernel
theorem dX7_takesAll_18 : decode cX7_takesAll 18 = .ok (.iastore, 1) := by decide +kernel
theorem dX7_takesAll_19 : decode cX7_takesAll 19 = .ok (.aload_n 0, 1) := by decide +kernel
theorem dX7_takesAll_20 : decode cX7_takesAll 20 = .ok (.invokevirtual 134, 3) := by decide +kernel
theorem dX7_takesAll_23 : decode cX7_takesAll 23 = .ok (.ifCond .eq 12, 3) := by decide +kernel
theorem dX7_takesAll_26 : decode cX7_takesAll 26 = .ok (.aload_n 0, 1) := by decide +kernel
theorem dX7_takesAll_27 : decode cX7_takesAll 27 = .ok (.bipush 59, 2) := by decide +kernel
theorem dX7_takesAll_29 : decode cX7_takesAll 29 = .ok (.invokevirtual 123, 3) := by decide +kernel
theorem dX7_takesAll_32 : decode cX7_takesAll 32 = .ok (.ifCond .ne 5, 3) := by decide +kernel
theorem dX7_takesAll_35 : decode cX7_takesAll 35 = .ok (.iconst 0, 1) := by decide +kernel
theorem dX7_takesAll_36 : decode cX7_takesAll 36 = .ok (.ireturn, 1) := by decide +kernel
theorem dX7_takesAll_37 : decode cX7_takesAll 37 = .ok (.iconst 0, 1) := by decide +kernel
theorem dX7_takesAll_38 : decode cX7_takesAll 38 = .ok (.istore_n 1, 1) := by decide +kernel
theorem dX7_takesAll_39 : decode cX7_takesAll 39 = .ok (.iconst 0, 1) := by decide +kernel
theorem dX7_takesAll_40 : decode cX7_takesAll 40 = .ok (.istore_n 2, 1) := by decide +kernel
theorem dX7_takesAll_41 : decode cX7_takesAll 41 = .ok (.aload_n 0, 1) := by decide +kernel
theorem dX7_takesAll_42 : decode cX7_takesAll 42 = .ok (.invokevirtual 113, 3) := by decide +kernel
theorem dX7_takesAll_45 : decode cX7_takesAll 45 = .ok (.iconst (-1), 1) := by decide +kernel
theorem dX7_takesAll_46 : decode cX7_takesAll 46 = .ok (.if_icmp .eq 94, 3) := by decide +kernel
theorem dX7_takesAll_49 : decode cX7_takesAll 49 = .ok (.iload_n 1, 1) := by decide +kernel
theorem dX7_takesAll_50 : decode cX7_takesAll 50 = .ok (.ifCond .ne 38, 3) := by decide +kernel
theorem dX7_takesAll_53 : decode cX7_takesAll 53 = .ok (.aload_n 0, 1) := by decide +kernel
theorem dX7_takesAll_54 : decode cX7_takesAll 54 = .ok (.bipush 112, 2) := by decide +kernel
theorem dX7_takesAll_56 : decode cX7_takesAll 56 = .ok (.invokevirtual 123, 3) := by decide +kernel
theorem dX7_takesAll_59 : decode cX7_takesAll 59 = .ok (.ifCond .eq 29, 3) := by decide +kernel
theorem dX7_takesAll_62 : decode cX7_takesAll 62 = .ok (.iconst 1, 1) := by decide +kernel
theorem dX7_takesAll_63 : decode cX7_takesAll 63 = .ok (.istore_n 1, 1) := by decide +kernel
theorem dX7_takesAll_64 : decode cX7_takesAll 64 = .ok (.aload_n 0, 1) := by decide +kernel
theorem dX7_takesAll_65 : decode cX7_takesAll 65 = .ok (.iconst 1, 1) := by decide +kernel
theorem dX7_takesAll_66 : decode cX7_takesAll 66 = .ok (.iconst 3, 1) := by decide +kernel
theorem dX7_takesAll_67 : decode cX7_takesAll 67 = .ok (.invokevirtual 126, 3) := by decide +kernel
theorem dX7_takesAll_70 : decode cX7_takesAll 70 = .ok (.ifCond .ne 5, 3) := by decide +kernel
theorem dX7_takesAll_73 : decode cX7_takesAll 73 = .ok (.iconst 0, 1) := by decide +kernel
theorem dX7_takesAll_74 : decode cX7_takesAll 74 = .ok (.ireturn, 1) := by decide +kernel
theorem dX7_takesAll_75 : decode cX7_takesAll 75 = .ok (.aload_n 0, 1) := by decide +kernel
theorem dX7_takesAll_76 : decode cX7_takesAll 76 = .ok (.getfield 35, 3) := by decide +kernel
theorem dX7_takesAll_79 : decode cX7_takesAll 79 = .ok (.iconst 3, 1) := by decide +kernel
theorem dX7_takesAll_80 : decode cX7_takesAll 80 = .ok (.aload_n 0, 1) := by decide +kernel
theorem dX7_takesAll_81 : decode cX7_takesAll 81 = .ok (.getfield 120, 3) := by decide +kernel
theorem dX7_takesAll_84 : decode cX7_takesAll 84 = .ok (.iastore, 1) := by decide +kernel
theorem dX7_takesAll_85 : decode cX7_takesAll 85 = .ok (.goto 44, 3) := by decide +kernel
theorem dX7_takesAll_88 : decode cX7_takesAll 88 = .ok (.iload_n 2, 1) := by decide +kernel
theorem dX7_takesAll_89 : decode cX7_takesAll 89 = .ok (.ifCond .ne 38, 3) := by decide +kernel
theorem dX7_takesAll_92 : decode cX7_takesAll 92 = .ok (.aload_n 0, 1) := by decide +kernel
theorem dX7_takesAll_93 : decode cX7_takesAll 93 = .ok (.bipush 113, 2) := by decide +kernel
theorem dX7_takesAll_95 : decode cX7_takesAll 95 = .ok (.invokevirtual 123, 3) := by decide +kernel
theorem dX7_takesAll_98 : decode cX7_takesAll 98 = .ok (.ifCond .eq 29, 3) := by decide +kernel
theorem dX7_takesAll_101 : decode cX7_takesAll 101 = .ok (.iconst 1, 1) := by decide +kernel
theorem dX7_takesAll_102 : decode cX7_takesAll 102 = .ok (.istore_n 2, 1) := by decide +kernel
theorem dX7_takesAll_103 : decode cX7_takesAll 103 = .ok (.aload_n 0, 1) := by decide +kernel
theorem dX7_takesAll_104 : decode cX7_takesAll 104 = .ok (.iconst 1, 1) := by decide +kernel
theorem dX7_takesAll_105 : decode cX7_takesAll 105 = .ok (.iconst 4, 1) := by decide +kernel
theorem dX7_takesAll_106 : decode cX7_takesAll 106 = .ok (.invokevirtual 126, 3) := by decide +kernel
theorem dX7_takesAll_109 : decode cX7_takesAll 109 = .ok (.ifCond .ne 5, 3) := by decide +kernel
theorem dX7_takesAll_112 : decode cX7_takesAll 112 = .ok (.iconst 0, 1) := by decide +kernel
theorem dX7_takesAll_113 : decode cX7_takesAll 113 = .ok (.ireturn, 1) := by decide +kernel
theorem dX7_takesAll_114 : decode cX7_takesAll 114 = .ok (.aload_n 0, 1) := by decide +kernel
theorem dX7_takesAll_115 : decode cX7_takesAll 115 = .ok (.getfield 35, 3) := by decide +kernel
theorem dX7_takesAll_118 : decode cX7_takesAll 118 = .ok (.iconst 4, 1) := by decide +kernel
theorem dX7_takesAll_119 : decode cX7_takesAll 119 = .ok (.aload_n 0, 1) := by decide +kernel
theorem dX7_takesAll_120 : decode cX7_takesAll 120 = .ok (.getfield 120, 3) := by decide +kernel
theorem dX7_takesAll_123 : decode cX7_takesAll 123 = .ok (.iastore, 1) := by decide +kernel
theorem dX7_takesAll_124 : decode cX7_takesAll 124 = .ok (.goto 5, 3) := by decide +kernel
theorem dX7_takesAll_127 : decode cX7_takesAll 127 = .ok (.iconst 0, 1) := by decide +kernel
theorem dX7_takesAll_128 : decode cX7_takesAll 128 = .ok (.ireturn, 1) := by decide +kernel
theorem dX7_takesAll_129 : decode cX7_takesAll 129 = .ok (.aload_n 0, 1) := by decide +kernel
theorem dX7_takesAll_130 : decode cX7_takesAll 130 = .ok (.bipush 59, 2) := by decide +kernel
theorem dX7_takesAll_132 : decode cX7_takesAll 132 = .ok (.invokevirtual 123, 3) := by decide +kernel
theorem dX7_takesAll_135 : decode cX7_takesAll 135 = .ok (.ifCond .ne (-94), 3) := by decide +kernel
theorem dX7_takesAll_138 : decode cX7_takesAll 138 = .ok (.iconst 0, 1) := by decide +kernel
theorem dX7_takesAll_139 : decode cX7_takesAll 139 = .ok (.ireturn, 1) := by decide +kernel
theorem dX7_takesAll_140 : decode cX7_takesAll 140 = .ok (.iconst 1, 1) := by decide +kernel
theorem dX7_takesAll_141 : decode cX7_takesAll 141 = .ok (.ireturn, 1) := by decide +kernel
theorem dX7_tells_0 : decode cX7_tells 0 = .ok (.aload_n 0, 1) := by decide +kernel
theorem dX7_tells_1 : decode cX7_tells 1 = .ok (.invokevirtual 137, 3) := by decide +kernel
theorem dX7_tells_4 : decode cX7_tells 4 = .ok (.ifCond .ne 11, 3) := by decide +kernel
theorem dX7_tells_7 : decode cX7_tells 7 = .ok (.bipush (-10), 2) := by decide +kernel
theorem dX7_tells_9 : decode cX7_tells 9 = .ok (.aload_n 0, 1) := by decide +kernel
theorem dX7_tells_10 : decode cX7_tells 10 = .ok (.getfield 106, 3) := by decide +kernel
theorem dX7_tells_13 : decode cX7_tells 13 = .ok (.isub, 1) := by decide +kernel
theorem dX7_tells_14 : decode cX7_tells 14 = .ok (.ireturn, 1) := by decide +kernel
theorem dX7_tells_15 : decode cX7_tells 15 = .ok (.aload_n 0, 1) := by decide +kernel
theorem dX7_tells_16 : decode cX7_tells 16 = .ok (.invokevirtual 140, 3) := by decide +kernel
theorem dX7_tells_19 : decode cX7_tells 19 = .ok (.iconst 0, 1) := by decide +kernel
theorem dX7_tells_20 : decode cX7_tells 20 = .ok (.istore_n 1, 1) := by decide +kernel
theorem dX7_tells_21 : decode cX7_tells 21 = .ok (.iload_n 1, 1) := by decide +kernel
theorem dX7_tells_22 : decode cX7_tells 22 = .ok (.iconst 5, 1) := by decide +kernel
theorem dX7_tells_23 : decode cX7_tells 23 = .ok (.if_icmp .ge 21, 3) := by decide +kernel
theorem dX7_tells_26 : decode cX7_tells 26 = .ok (.aload_n 0, 1) := by decide +kernel
theorem dX7_tells_27 : decode cX7_tells 27 = .ok (.getfield 7, 3) := by decide +kernel
theorem dX7_tells_30 : decode cX7_tells 30 = .ok (.iload_n 1, 1) := by decide +kernel
theorem dX7_tells_31 : decode cX7_tells 31 = .ok (.aload_n 0, 1) := by decide +kernel
theorem dX7_tells_32 : decode cX7_tells 32 = .ok (.getfield 35, 3) := by decide +kernel
theorem dX7_tells_35 : decode cX7_tells 35 = .ok (.iload_n 1, 1) := by decide +kernel
theorem dX7_tells_36 : decode cX7_tells 36 = .ok (.iaload, 1) := by decide +kernel
theorem dX7_tells_37 : decode cX7_tells 37 = .ok (.iastore, 1) := by decide +kernel
theorem dX7_tells_38 : decode cX7_tells 38 = .ok (.iinc 1 1, 3) := by decide +kernel
theorem dX7_tells_41 : decode cX7_tells 41 = .ok (.goto (-20), 3) := by decide +kernel
theorem dX7_tells_44 : decode cX7_tells 44 = .ok (.aload_n 0, 1) := by decide +kernel
theorem dX7_tells_45 : decode cX7_tells 45 = .ok (.invokevirtual 53, 3) := by decide +kernel
theorem dX7_tells_48 : decode cX7_tells 48 = .ok (.aload_n 0, 1) := by decide +kernel
theorem dX7_tells_49 : decode cX7_tells 49 = .ok (.iconst 0, 1) := by decide +kernel
theorem dX7_tells_50 : decode cX7_tells 50 = .ok (.putfield 103, 3) := by decide +kernel
theorem dX7_tells_53 : decode cX7_tells 53 = .ok (.aload_n 0, 1) := by decide +kernel
theorem dX7_tells_54 : decode cX7_tells 54 = .ok (.iconst 0, 1) := by decide +kernel
theorem dX7_tells_55 : decode cX7_tells 55 = .ok (.putfield 143, 3) := by decide +kernel
theorem dX7_tells_58 : decode cX7_tells 58 = .ok (.aload_n 0, 1) := by decide +kernel
theorem dX7_tells_59 : decode cX7_tells 59 = .ok (.getfield 19, 3) := by decide +kernel
theorem dX7_tells_62 : decode cX7_tells 62 = .ok (.iconst 0, 1) := by decide +kernel
theorem dX7_tells_63 : decode cX7_tells 63 = .ok (.iconst 0, 1) := by decide +kernel
theorem dX7_tells_64 : decode cX7_tells 64 = .ok (.bastore, 1) := by decide +kernel
theorem dX7_tells_65 : decode cX7_tells 65 = .ok (.aload_n 0, 1) := by decide +kernel
theorem dX7_tells_66 : decode cX7_tells 66 = .ok (.getfield 19, 3) := by decide +kernel
theorem dX7_tells_69 : decode cX7_tells 69 = .ok (.iconst 1, 1) := by decide +kernel
theorem dX7_tells_70 : decode cX7_tells 70 = .ok (.iconst 0, 1) := by decide +kernel
theorem dX7_tells_71 : decode cX7_tells 71 = .ok (.bastore, 1) := by decide +kernel
theorem dX7_tells_72 : decode cX7_tells 72 = .ok (.aload_n 0, 1) := by decide +kernel
theorem dX7_tells_73 : decode cX7_tells 73 = .ok (.invokevirtual 82, 3) := by decide +kernel
theorem dX7_tells_76 : decode cX7_tells 76 = .ok (.ireturn, 1) := by decide +kernel
theorem dX7_sends_0 : decode cX7_sends 0 = .ok (.iload_n 1, 1) := by decide +kernel
theorem dX7_sends_1 : decode cX7_sends 1 = .ok (.i2l, 1) := by decide +kernel
theorem dX7_sends_2 : decode cX7_sends 2 = .ok (.lconst 0, 1) := by decide +kernel
theorem dX7_sends_3 : decode cX7_sends 3 = .ok (.iconst 1, 1) := by decide +kernel
theorem dX7_sends_4 : decode cX7_sends 4 = .ok (.aload_n 0, 1) := by decide +kernel
theorem dX7_sends_5 : decode cX7_sends 5 = .ok (.getfield 7, 3) := by decide +kernel
theorem dX7_sends_8 : decode cX7_sends 8 = .ok (.iconst 3, 1) := by decide +kernel
theorem dX7_sends_9 : decode cX7_sends 9 = .ok (.iaload, 1) := by decide +kernel
theorem dX7_sends_10 : decode cX7_sends 10 = .ok (.ishl, 1) := by decide +kernel
theorem dX7_sends_11 : decode cX7_sends 11 = .ok (.iconst 1, 1) := by decide +kernel
theorem dX7_sends_12 : decode cX7_sends 12 = .ok (.isub, 1) := by decide +kernel
theorem dX7_sends_13 : decode cX7_sends 13 = .ok (.i2l, 1) := by decide +kernel
theorem dX7_sends_14 : decode cX7_sends 14 = .ok (.invokestatic 70, 3) := by decide +kernel
theorem dX7_sends_17 : decode cX7_sends 17 = .ok (.ifCond .ne 5, 3) := by decide +kernel
theorem dX7_sends_20 : decode cX7_sends 20 = .ok (.iconst (-1), 1) := by decide +kernel
theorem dX7_sends_21 : decode cX7_sends 21 = .ok (.ireturn, 1) := by decide +kernel
theorem dX7_sends_22 : decode cX7_sends 22 = .ok (.aload_n 0, 1) := by decide +kernel
theorem dX7_sends_23 : decode cX7_sends 23 = .ok (.invokevirtual 56, 3) := by decide +kernel
theorem dX7_sends_26 : decode cX7_sends 26 = .ok (.aload_n 0, 1) := by decide +kernel
theorem dX7_sends_27 : decode cX7_sends 27 = .ok (.getfield 92, 3) := by decide +kernel
theorem dX7_sends_30 : decode cX7_sends 30 = .ok (.ifCond .ne 6, 3) := by decide +kernel
theorem dX7_sends_33 : decode cX7_sends 33 = .ok (.bipush (-2), 2) := by decide +kernel
theorem dX7_sends_35 : decode cX7_sends 35 = .ok (.ireturn, 1) := by decide +kernel
theorem dX7_sends_36 : decode cX7_sends 36 = .ok (.aload_n 0, 1) := by decide +kernel
theorem dX7_sends_37 : decode cX7_sends 37 = .ok (.getfield 7, 3) := by decide +kernel
theorem dX7_sends_40 : decode cX7_sends 40 = .ok (.iconst 5, 1) := by decide +kernel
theorem dX7_sends_41 : decode cX7_sends 41 = .ok (.iaload, 1) := by decide +kernel
theorem dX7_sends_42 : decode cX7_sends 42 = .ok (.istore_n 2, 1) := by decide +kernel
theorem dX7_sends_43 : decode cX7_sends 43 = .ok (.iload_n 2, 1) := by decide +kernel
theorem dX7_sends_44 : decode cX7_sends 44 = .ok (.bipush 24, 2) := by decide +kernel
theorem dX7_sends_46 : decode cX7_sends 46 = .ok (.if_icmp .ne 6, 3) := by decide +kernel
theorem dX7_sends_49 : decode cX7_sends 49 = .ok (.bipush (-3), 2) := by decide +kernel
theorem dX7_sends_51 : decode cX7_sends 51 = .ok (.ireturn, 1) := by decide +kernel
theorem dX7_sends_52 : decode cX7_sends 52 = .ok (.aload_n 0, 1) := by decide +kernel
theorem dX7_sends_53 : decode cX7_sends 53 = .ok (.aload_n 0, 1) := by decide +kernel
theorem dX7_sends_54 : decode cX7_sends 54 = .ok (.getfield 7, 3) := by decide +kernel
theorem dX7_sends_57 : decode cX7_sends 57 = .ok (.bipush 6, 2) := by decide +kernel
theorem dX7_sends_59 : decode cX7_sends 59 = .ok (.iaload, 1) := by decide +kernel
theorem dX7_sends_60 : decode cX7_sends 60 = .ok (.iload_n 1, 1) := by decide +kernel
theorem dX7_sends_61 : decode cX7_sends 61 = .ok (.invokevirtual 146, 3) := by decide +kernel
theorem dX7_sends_64 : decode cX7_sends 64 = .ok (.istore_n 3, 1) := by decide +kernel
theorem dX7_sends_65 : decode cX7_sends 65 = .ok (.aload_n 0, 1) := by decide +kernel
theorem dX7_sends_66 : decode cX7_sends 66 = .ok (.invokevirtual 140, 3) := by decide +kernel
theorem dX7_sends_69 : decode cX7_sends 69 = .ok (.aload_n 0, 1) := by decide +kernel
theorem dX7_sends_70 : decode cX7_sends 70 = .ok (.getfield 7, 3) := by decide +kernel
theorem dX7_sends_73 : decode cX7_sends 73 = .ok (.bipush 7, 2) := by decide +kernel
theorem dX7_sends_75 : decode cX7_sends 75 = .ok (.iload_n 2, 1) := by decide +kernel
theorem dX7_sends_76 : decode cX7_sends 76 = .ok (.iadd, 1) := by decide +kernel
theorem dX7_sends_77 : decode cX7_sends 77 = .ok (.iload_n 3, 1) := by decide +kernel
theorem dX7_sends_78 : decode cX7_sends 78 = .ok (.iastore, 1) := by decide +kernel
theorem dX7_sends_79 : decode cX7_sends 79 = .ok (.aload_n 0, 1) := by decide +kernel
theorem dX7_sends_80 : decode cX7_sends 80 = .ok (.getfield 7, 3) := by decide +kernel
theorem dX7_sends_83 : decode cX7_sends 83 = .ok (.bipush 31, 2) := by decide +kernel
theorem dX7_sends_85 : decode cX7_sends 85 = .ok (.iload_n 2, 1) := by decide +kernel
theorem dX7_sends_86 : decode cX7_sends 86 = .ok (.iadd, 1) := by decide +kernel
theorem dX7_sends_87 : decode cX7_sends 87 = .ok (.iload_n 3, 1) := by decide +kernel
theorem dX7_sends_88 : decode cX7_sends 88 = .ok (.iastore, 1) := by decide +kernel
theorem dX7_sends_89 : decode cX7_sends 89 = .ok (.aload_n 0, 1) := by decide +kernel
theorem dX7_sends_90 : decode cX7_sends 90 = .ok (.getfield 7, 3) := by decide +kernel
theorem dX7_sends_93 : decode cX7_sends 93 = .ok (.bipush 55, 2) := by decide +kernel
theorem dX7_sends_95 : decode cX7_sends 95 = .ok (.iload_n 2, 1) := by decide +kernel
theorem dX7_sends_96 : decode cX7_sends 96 = .ok (.iadd, 1) := by decide +kernel
theorem dX7_sends_97 : decode cX7_sends 97 = .ok (.iload_n 1, 1) := by decide +kernel
theorem dX7_sends_98 : decode cX7_sends 98 = .ok (.iastore, 1) := by decide +kernel
theorem dX7_sends_99 : decode cX7_sends 99 = .ok (.aload_n 0, 1) := by decide +kernel
theorem dX7_sends_100 : decode cX7_sends 100 = .ok (.getfield 7, 3) := by decide +kernel
theorem dX7_sends_103 : decode cX7_sends 103 = .ok (.iconst 5, 1) := by decide +kernel
theorem dX7_sends_104 : decode cX7_sends 104 = .ok (.dup2, 1) := by decide +kernel
theorem dX7_sends_105 : decode cX7_sends 105 = .ok (.iaload, 1) := by decide +kernel
theorem dX7_sends_106 : decode cX7_sends 106 = .ok (.iconst 1, 1) := by decide +kernel
theorem dX7_sends_107 : decode cX7_sends 107 = .ok (.iadd, 1) := by decide +kernel
theorem dX7_sends_108 : decode cX7_sends 108 = .ok (.iastore, 1) := by decide +kernel
theorem dX7_sends_109 : decode cX7_sends 109 = .ok (.aload_n 0, 1) := by decide +kernel
theorem dX7_sends_110 : decode cX7_sends 110 = .ok (.getfield 7, 3) := by decide +kernel
theorem dX7_sends_113 : decode cX7_sends 113 = .ok (.bipush 6, 2) := by decide +kernel
theorem dX7_sends_115 : decode cX7_sends 115 = .ok (.aload_n 0, 1) := by decide +kernel
theorem dX7_sends_116 : decode cX7_sends 116 = .ok (.aload_n 0, 1) := by decide +kernel
theorem dX7_sends_117 : decode cX7_sends 117 = .ok (.getfield 7, 3) := by decide +kernel
theorem dX7_sends_120 : decode cX7_sends 120 = .ok (.bipush 6, 2) := by decide +kernel
theorem dX7_sends_122 : decode cX7_sends 122 = .ok (.iaload, 1) := by decide +kernel
theorem dX7_sends_123 : decode cX7_sends 123 = .ok (.iload_n 3, 1) := by decide +kernel
theorem dX7_sends_124 : decode cX7_sends 124 = .ok (.invokevirtual 89, 3) := by decide +kernel
theorem dX7_sends_127 : decode cX7_sends 127 = .ok (.iastore, 1) := by decide +kernel
theorem dX7_sends_128 : decode cX7_sends 128 = .ok (.iload_n 3, 1) := by decide +kernel
theorem dX7_sends_129 : decode cX7_sends 129 = .ok (.ireturn, 1) := by decide +kernel
theorem dX7_wordFor_0 : decode cX7_wordFor 0 = .ok (.bipush (-9), 2) := by decide +kernel
theorem dX7_wordFor_2 : decode cX7_wordFor 2 = .ok (.istore_n 3, 1) := by decide +kernel
theorem dX7_wordFor_3 : decode cX7_wordFor 3 = .ok (.iconst 0, 1) := by decide +kernel
theorem dX7_wordFor_4 : decode cX7_wordFor 4 = .ok (.istore 4, 2) := by decide +kernel
theorem dX7_wordFor_6 : decode cX7_wordFor 6 = .ok (.iload 4, 2) := by decide +kernel
theorem dX7_wordFor_8 : decode cX7_wordFor 8 = .ok (.aload_n 0, 1) := by decide +kernel
theorem dX7_wordFor_9 : decode cX7_wordFor 9 = .ok (.invokevirtual 78, 3) := by decide +kernel
theorem dX7_wordFor_12 : decode cX7_wordFor 12 = .ok (.if_icmp .ge 27, 3) := by decide +kernel
theorem dX7_wordFor_15 : decode cX7_wordFor 15 = .ok (.aload_n 0, 1) := by decide +kernel
theorem dX7_wordFor_16 : decode cX7_wordFor 16 = .ok (.iload_n 1, 1) := by decide +kernel
theorem dX7_wordFor_17 : decode cX7_wordFor 17 = .ok (.iload 4, 2) := by decide +kernel
theorem dX7_wordFor_19 : decode cX7_wordFor 19 = .ok (.invokevirtual 149, 3) := by decide +kernel
theorem dX7_wordFor_22 : decode cX7_wordFor 22 = .ok (.iload_n 2, 1) := by decide +kernel
theorem dX7_wordFor_23 : decode cX7_wordFor 23 = .ok (.if_icmp .ne 8, 3) := by decide +kernel
theorem dX7_wordFor_26 : decode cX7_wordFor 26 = .ok (.iload 4, 2) := by decide +kernel
theorem dX7_wordFor_28 : decode cX7_wordFor 28 = .ok (.goto 4, 3) := by decide +kernel
theorem dX7_wordFor_31 : decode cX7_wordFor 31 = .ok (.iload_n 3, 1) := by decide +kernel
theorem dX7_wordFor_32 : decode cX7_wordFor 32 = .ok (.istore_n 3, 1) := by decide +kernel
theorem dX7_wordFor_33 : decode cX7_wordFor 33 = .ok (.iinc 4 1, 3) := by decide +kernel
theorem dX7_wordFor_36 : decode cX7_wordFor 36 = .ok (.goto (-30), 3) := by decide +kernel
theorem dX7_wordFor_39 : decode cX7_wordFor 39 = .ok (.iload_n 3, 1) := by decide +kernel
theorem dX7_wordFor_40 : decode cX7_wordFor 40 = .ok (.ireturn, 1) := by decide +kernel
theorem dX7_flips_0 : decode cX7_flips 0 = .ok (.iload_n 1, 1) := by decide +kernel
theorem dX7_flips_1 : decode cX7_flips 1 = .ok (.i2l, 1) := by decide +kernel
theorem dX7_flips_2 : decode cX7_flips 2 = .ok (.lconst 0, 1) := by decide +kernel
theorem dX7_flips_3 : decode cX7_flips 3 = .ok (.aload_n 0, 1) := by decide +kernel
theorem dX7_flips_4 : decode cX7_flips 4 = .ok (.getfield 7, 3) := by decide +kernel
theorem dX7_flips_7 : decode cX7_flips 7 = .ok (.iconst 4, 1) := by decide +kernel
theorem dX7_flips_8 : decode cX7_flips 8 = .ok (.iaload, 1) := by decide +kernel
theorem dX7_flips_9 : decode cX7_flips 9 = .ok (.i2l, 1) := by decide +kernel
theorem dX7_flips_10 : decode cX7_flips 10 = .ok (.aload_n 0, 1) := by decide +kernel
theorem dX7_flips_11 : decode cX7_flips 11 = .ok (.getfield 7, 3) := by decide +kernel
theorem dX7_flips_14 : decode cX7_flips 14 = .ok (.iconst 5, 1) := by decide +kernel
theorem dX7_flips_15 : decode cX7_flips 15 = .ok (.iaload, 1) := by decide +kernel
theorem dX7_flips_16 : decode cX7_flips 16 = .ok (.i2l, 1) := by decide +kernel
theorem dX7_flips_17 : decode cX7_flips 17 = .ok (.lmul, 1) := by decide +kernel
theorem dX7_flips_18 : decode cX7_flips 18 = .ok (.lconst 1, 1) := by decide +kernel
theorem dX7_flips_19 : decode cX7_flips 19 = .ok (.lsub, 1) := by decide +kernel
theorem dX7_flips_20 : decode cX7_flips 20 = .ok (.invokestatic 70, 3) := by decide +kernel
theorem dX7_flips_23 : decode cX7_flips 23 = .ok (.ifCond .ne 5, 3) := by decide +kernel
theorem dX7_flips_26 : decode cX7_flips 26 = .ok (.iconst (-1), 1) := by decide +kernel
theorem dX7_flips_27 : decode cX7_flips 27 = .ok (.ireturn, 1) := by decide +kernel
theorem dX7_flips_28 : decode cX7_flips 28 = .ok (.aload_n 0, 1) := by decide +kernel
theorem dX7_flips_29 : decode cX7_flips 29 = .ok (.invokevirtual 140, 3) := by decide +kernel
theorem dX7_flips_32 : decode cX7_flips 32 = .ok (.iload_n 1, 1) := by decide +kernel
theorem dX7_flips_33 : decode cX7_flips 33 = .ok (.aload_n 0, 1) := by decide +kernel
theorem dX7_flips_34 : decode cX7_flips 34 = .ok (.getfield 7, 3) := by decide +kernel
theorem dX7_flips_37 : decode cX7_flips 37 = .ok (.iconst 4, 1) := by decide +kernel
theorem dX7_flips_38 : decode cX7_flips 38 = .ok (.iaload, 1) := by decide +kernel
theorem dX7_flips_39 : decode cX7_flips 39 = .ok (.idiv, 1) := by decide +kernel
theorem dX7_flips_40 : decode cX7_flips 40 = .ok (.istore_n 2, 1) := by decide +kernel
theorem dX7_flips_41 : decode cX7_flips 41 = .ok (.aload_n 0, 1) := by decide +kernel
theorem dX7_flips_42 : decode cX7_flips 42 = .ok (.getfield 7, 3) := by decide +kernel
theorem dX7_flips_45 : decode cX7_flips 45 = .ok (.iconst 4, 1) := by decide +kernel
theorem dX7_flips_46 : decode cX7_flips 46 = .ok (.iaload, 1) := by decide +kernel
theorem dX7_flips_47 : decode cX7_flips 47 = .ok (.iconst 1, 1) := by decide +kernel
theorem dX7_flips_48 : decode cX7_flips 48 = .ok (.isub, 1) := by decide +kernel
theorem dX7_flips_49 : decode cX7_flips 49 = .ok (.iload_n 1, 1) := by decide +kernel
theorem dX7_flips_50 : decode cX7_flips 50 = .ok (.aload_n 0, 1) := by decide +kernel
theorem dX7_flips_51 : decode cX7_flips 51 = .ok (.getfield 7, 3) := by decide +kernel
theorem dX7_flips_54 : decode cX7_flips 54 = .ok (.iconst 4, 1) := by decide +kernel
theorem dX7_flips_55 : decode cX7_flips 55 = .ok (.iaload, 1) := by decide +kernel
theorem dX7_flips_56 : decode cX7_flips 56 = .ok (.irem, 1) := by decide +kernel
theorem dX7_flips_57 : decode cX7_flips 57 = .ok (.isub, 1) := by decide +kernel
theorem dX7_flips_58 : decode cX7_flips 58 = .ok (.istore_n 3, 1) := by decide +kernel
theorem dX7_flips_59 : decode cX7_flips 59 = .ok (.aload_n 0, 1) := by decide +kernel
theorem dX7_flips_60 : decode cX7_flips 60 = .ok (.getfield 7, 3) := by decide +kernel
theorem dX7_flips_63 : decode cX7_flips 63 = .ok (.bipush 31, 2) := by decide +kernel
theorem dX7_flips_65 : decode cX7_flips 65 = .ok (.iload_n 2, 1) := by decide +kernel
theorem dX7_flips_66 : decode cX7_flips 66 = .ok (.iadd, 1) := by decide +kernel
theorem dX7_flips_67 : decode cX7_flips 67 = .ok (.dup2, 1) := by decide +kernel
theorem dX7_flips_68 : decode cX7_flips 68 = .ok (.iaload, 1) := by decide +kernel
theorem dX7_flips_69 : decode cX7_flips 69 = .ok (.iconst 1, 1) := by decide +kernel
theorem dX7_flips_70 : decode cX7_flips 70 = .ok (.iload_n 3, 1) := by decide +kernel
theorem dX7_flips_71 : decode cX7_flips 71 = .ok (.ishl, 1) := by decide +kernel
theorem dX7_flips_72 : decode cX7_flips 72 = .ok (.ixor, 1) := by decide +kernel
theorem dX7_flips_73 : decode cX7_flips 73 = .ok (.iastore, 1) := by decide +kernel
theorem dX7_flips_74 : decode cX7_flips 74 = .ok (.aload_n 0, 1) := by decide +kernel
theorem dX7_flips_75 : decode cX7_flips 75 = .ok (.getfield 7, 3) := by decide +kernel
theorem dX7_flips_78 : decode cX7_flips 78 = .ok (.bipush 31, 2) := by decide +kernel
theorem dX7_flips_80 : decode cX7_flips 80 = .ok (.iload_n 2, 1) := by decide +kernel
theorem dX7_flips_81 : decode cX7_flips 81 = .ok (.iadd, 1) := by decide +kernel
theorem dX7_flips_82 : decode cX7_flips 82 = .ok (.iaload, 1) := by decide +kernel
theorem dX7_flips_83 : decode cX7_flips 83 = .ok (.iload_n 3, 1) := by decide +kernel
theorem dX7_flips_84 : decode cX7_flips 84 = .ok (.ishr, 1) := by decide +kernel
theorem dX7_flips_85 : decode cX7_flips 85 = .ok (.iconst 1, 1) := by decide +kernel
theorem dX7_flips_86 : decode cX7_flips 86 = .ok (.iand, 1) := by decide +kernel
theorem dX7_flips_87 : decode cX7_flips 87 = .ok (.ireturn, 1) := by decide +kernel
theorem dX7_undo_0 : decode cX7_undo 0 = .ok (.aload_n 0, 1) := by decide +kernel
theorem dX7_undo_1 : decode cX7_undo 1 = .ok (.getfield 63, 3) := by decide +kernel
theorem dX7_undo_4 : decode cX7_undo 4 = .ok (.ifCond .ne 6, 3) := by decide +kernel
theorem dX7_undo_7 : decode cX7_undo 7 = .ok (.bipush (-2), 2) := by decide +kernel
theorem dX7_undo_9 : decode cX7_undo 9 = .ok (.ireturn, 1) := by decide +kernel
theorem dX7_undo_10 : decode cX7_undo 10 = .ok (.aload_n 0, 1) := by decide +kernel
theorem dX7_undo_11 : decode cX7_undo 11 = .ok (.dup, 1) := by decide +kernel
theorem dX7_undo_12 : decode cX7_undo 12 = .ok (.getfield 63, 3) := by decide +kernel
theorem dX7_undo_15 : decode cX7_undo 15 = .ok (.iconst 1, 1) := by decide +kernel
theorem dX7_undo_16 : decode cX7_undo 16 = .ok (.isub, 1) := by decide +kernel
theorem dX7_undo_17 : decode cX7_undo 17 = .ok (.putfield 63, 3) := by decide +kernel
theorem dX7_undo_20 : decode cX7_undo 20 = .ok (.iconst 0, 1) := by decide +kernel
theorem dX7_undo_21 : decode cX7_undo 21 = .ok (.istore_n 1, 1) := by decide +kernel
theorem dX7_undo_22 : decode cX7_undo 22 = .ok (.iload_n 1, 1) := by decide +kernel
theorem dX7_undo_23 : decode cX7_undo 23 = .ok (.bipush 79, 2) := by decide +kernel
theorem dX7_undo_25 : decode cX7_undo 25 = .ok (.if_icmp .ge 29, 3) := by decide +kernel
theorem dX7_undo_28 : decode cX7_undo 28 = .ok (.aload_n 0, 1) := by decide +kernel
theorem dX7_undo_29 : decode cX7_undo 29 = .ok (.getfield 7, 3) := by decide +kernel
theorem dX7_undo_32 : decode cX7_undo 32 = .ok (.iload_n 1, 1) := by decide +kernel
theorem dX7_undo_33 : decode cX7_undo 33 = .ok (.aload_n 0, 1) := by decide +kernel
theorem dX7_undo_34 : decode cX7_undo 34 = .ok (.getfield 13, 3) := by decide +kernel
theorem dX7_undo_37 : decode cX7_undo 37 = .ok (.bipush 79, 2) := by decide +kernel
theorem dX7_undo_39 : decode cX7_undo 39 = .ok (.aload_n 0, 1) := by decide +kernel
theorem dX7_undo_40 : decode cX7_undo 40 = .ok (.getfield 63, 3) := by decide +kernel
theorem dX7_undo_43 : decode cX7_undo 43 = .ok (.imul, 1) := by decide +kernel
theorem dX7_undo_44 : decode cX7_undo 44 = .ok (.iload_n 1, 1) := by decide +kernel
theorem dX7_undo_45 : decode cX7_undo 45 = .ok (.iadd, 1) := by decide +kernel
theorem dX7_undo_46 : decode cX7_undo 46 = .ok (.iaload, 1) := by decide +kernel
theorem dX7_undo_47 : decode cX7_undo 47 = .ok (.iastore, 1) := by decide +kernel
theorem dX7_undo_48 : decode cX7_undo 48 = .ok (.iinc 1 1, 3) := by decide +kernel
theorem dX7_undo_51 : decode cX7_undo 51 = .ok (.goto (-29), 3) := by decide +kernel
theorem dX7_undo_54 : decode cX7_undo 54 = .ok (.aload_n 0, 1) := by decide +kernel
theorem dX7_undo_55 : decode cX7_undo 55 = .ok (.getfield 63, 3) := by decide +kernel
theorem dX7_undo_58 : decode cX7_undo 58 = .ok (.ireturn, 1) := by decide +kernel
theorem dX7_isState_0 : decode cX7_isState 0 = .ok (.iload_n 1, 1) := by decide +kernel
theorem dX7_isState_1 : decode cX7_isState 1 = .ok (.i2l, 1) := by decide +kernel
theorem dX7_isState_2 : decode cX7_isState 2 = .ok (.lconst 0, 1) := by decide +kernel
theorem dX7_isState_3 : decode cX7_isState 3 = .ok (.aload_n 0, 1) := by decide +kernel
theorem dX7_isState_4 : decode cX7_isState 4 = .ok (.invokevirtual 82, 3) := by decide +kernel
theorem dX7_isState_7 : decode cX7_isState 7 = .ok (.iconst 1, 1) := by decide +kernel
theorem dX7_isState_8 : decode cX7_isState 8 = .ok (.isub, 1) := by decide +kernel
theorem dX7_isState_9 : decode cX7_isState 9 = .ok (.i2l, 1) := by decide +kernel
theorem dX7_isState_10 : decode cX7_isState 10 = .ok (.invokestatic 70, 3) := by decide +kernel
theorem dX7_isState_13 : decode cX7_isState 13 = .ok (.ireturn, 1) := by decide +kernel
theorem dX7_step_0 : decode cX7_step 0 = .ok (.aload_n 0, 1) := by decide +kernel
theorem dX7_step_1 : decode cX7_step 1 = .ok (.iload_n 1, 1) := by decide +kernel
theorem dX7_step_2 : decode cX7_step 2 = .ok (.invokevirtual 152, 3) := by decide +kernel
theorem dX7_step_5 : decode cX7_step 5 = .ok (.ifCond .eq 22, 3) := by decide +kernel
theorem dX7_step_8 : decode cX7_step 8 = .ok (.iload_n 2, 1) := by decide +kernel
theorem dX7_step_9 : decode cX7_step 9 = .ok (.i2l, 1) := by decide +kernel
theorem dX7_step_10 : decode cX7_step 10 = .ok (.lconst 0, 1) := by decide +kernel
theorem dX7_step_11 : decode cX7_step 11 = .ok (.lconst 1, 1) := by decide +kernel
theorem dX7_step_12 : decode cX7_step 12 = .ok (.invokestatic 70, 3) := by decide +kernel
theorem dX7_step_15 : decode cX7_step 15 = .ok (.ifCond .eq 12, 3) := by decide +kernel
theorem dX7_step_18 : decode cX7_step 18 = .ok (.aload_n 0, 1) := by decide +kernel
theorem dX7_step_19 : decode cX7_step 19 = .ok (.iload_n 1, 1) := by decide +kernel
theorem dX7_step_20 : decode cX7_step 20 = .ok (.iload_n 2, 1) := by decide +kernel
theorem dX7_step_21 : decode cX7_step 21 = .ok (.invokevirtual 85, 3) := by decide +kernel
theorem dX7_step_24 : decode cX7_step 24 = .ok (.goto 4, 3) := by decide +kernel
theorem dX7_step_27 : decode cX7_step 27 = .ok (.iconst (-1), 1) := by decide +kernel
theorem dX7_step_28 : decode cX7_step 28 = .ok (.ireturn, 1) := by decide +kernel
theorem dX7_arc_0 : decode cX7_arc 0 = .ok (.aload_n 0, 1) := by decide +kernel
theorem dX7_arc_1 : decode cX7_arc 1 = .ok (.iload_n 1, 1) := by decide +kernel
theorem dX7_arc_2 : decode cX7_arc 2 = .ok (.invokevirtual 152, 3) := by decide +kernel
theorem dX7_arc_5 : decode cX7_arc 5 = .ok (.ifCond .eq 29, 3) := by decide +kernel
theorem dX7_arc_8 : decode cX7_arc 8 = .ok (.iload_n 2, 1) := by decide +kernel
theorem dX7_arc_9 : decode cX7_arc 9 = .ok (.i2l, 1) := by decide +kernel
theorem dX7_arc_10 : decode cX7_arc 10 = .ok (.lconst 0, 1) := by decide +kernel
theorem dX7_arc_11 : decode cX7_arc 11 = .ok (.aload_n 0, 1) := by decide +kernel
theorem dX7_arc_12 : decode cX7_arc 12 = .ok (.invokevirtual 78, 3) := by decide +kernel
theorem dX7_arc_15 : decode cX7_arc 15 = .ok (.iconst 1, 1) := by decide +kernel
theorem dX7_arc_16 : decode cX7_arc 16 = .ok (.isub, 1) := by decide +kernel
theorem dX7_arc_17 : decode cX7_arc 17 = .ok (.i2l, 1) := by decide +kernel
theorem dX7_arc_18 : decode cX7_arc 18 = .ok (.invokestatic 70, 3) := by decide +kernel
theorem dX7_arc_21 : decode cX7_arc 21 = .ok (.ifCond .eq 13, 3) := by decide +kernel
theorem dX7_arc_24 : decode cX7_arc 24 = .ok (.iload_n 3, 1) := by decide +kernel
theorem dX7_arc_25 : decode cX7_arc 25 = .ok (.i2l, 1) := by decide +kernel
theorem dX7_arc_26 : decode cX7_arc 26 = .ok (.lconst 0, 1) := by decide +kernel
theorem dX7_arc_27 : decode cX7_arc 27 = .ok (.lconst 1, 1) := by decide +kernel
theorem dX7_arc_28 : decode cX7_arc 28 = .ok (.invokestatic 70, 3) := by decide +kernel
theorem dX7_arc_31 : decode cX7_arc 31 = .ok (.ifCond .ne 5, 3) := by decide +kernel
theorem dX7_arc_34 : decode cX7_arc 34 = .ok (.iconst (-1), 1) := by decide +kernel
theorem dX7_arc_35 : decode cX7_arc 35 = .ok (.ireturn, 1) := by decide +kernel
theorem dX7_arc_36 : decode cX7_arc 36 = .ok (.aload_n 0, 1) := by decide +kernel
theorem dX7_arc_37 : decode cX7_arc 37 = .ok (.invokevirtual 56, 3) := by decide +kernel
theorem dX7_arc_40 : decode cX7_arc 40 = .ok (.iload_n 3, 1) := by decide +kernel
theorem dX7_arc_41 : decode cX7_arc 41 = .ok (.ifCond .ne 12, 3) := by decide +kernel
theorem dX7_arc_44 : decode cX7_arc 44 = .ok (.aload_n 0, 1) := by decide +kernel
theorem dX7_arc_45 : decode cX7_arc 45 = .ok (.iload_n 1, 1) := by decide +kernel
theorem dX7_arc_46 : decode cX7_arc 46 = .ok (.iload_n 2, 1) := by decide +kernel
theorem dX7_arc_47 : decode cX7_arc 47 = .ok (.invokevirtual 89, 3) := by decide +kernel
theorem dX7_arc_50 : decode cX7_arc 50 = .ok (.goto 9, 3) := by decide +kernel
theorem dX7_arc_53 : decode cX7_arc 53 = .ok (.aload_n 0, 1) := by decide +kernel
theorem dX7_arc_54 : decode cX7_arc 54 = .ok (.iload_n 1, 1) := by decide +kernel
theorem dX7_arc_55 : decode cX7_arc 55 = .ok (.iload_n 2, 1) := by decide +kernel
theorem dX7_arc_56 : decode cX7_arc 56 = .ok (.invokevirtual 149, 3) := by decide +kernel
theorem dX7_arc_59 : decode cX7_arc 59 = .ok (.ireturn, 1) := by decide +kernel
theorem dX7_state_0 : decode cX7_state 0 = .ok (.aload_n 0, 1) := by decide +kernel
theorem dX7_state_1 : decode cX7_state 1 = .ok (.iload_n 1, 1) := by decide +kernel
theorem dX7_state_2 : decode cX7_state 2 = .ok (.invokevirtual 152, 3) := by decide +kernel
theorem dX7_state_5 : decode cX7_state 5 = .ok (.ifCond .eq 13, 3) := by decide +kernel
theorem dX7_state_8 : decode cX7_state 8 = .ok (.iload_n 2, 1) := by decide +kernel
theorem dX7_state_9 : decode cX7_state 9 = .ok (.i2l, 1) := by decide +kernel
theorem dX7_state_10 : decode cX7_state 10 = .ok (.lconst 0, 1) := by decide +kernel
theorem dX7_state_11 : decode cX7_state 11 = .ok (.lconst 1, 1) := by decide +kernel
theorem dX7_state_12 : decode cX7_state 12 = .ok (.invokestatic 70, 3) := by decide +kernel
theorem dX7_state_15 : decode cX7_state 15 = .ok (.ifCond .ne 5, 3) := by decide +kernel
theorem dX7_state_18 : decode cX7_state 18 = .ok (.iconst (-1), 1) := by decide +kernel
theorem dX7_state_19 : decode cX7_state 19 = .ok (.ireturn, 1) := by decide +kernel
theorem dX7_state_20 : decode cX7_state 20 = .ok (.aload_n 0, 1) := by decide +kernel
theorem dX7_state_21 : decode cX7_state 21 = .ok (.invokevirtual 56, 3) := by decide +kernel
theorem dX7_state_24 : decode cX7_state 24 = .ok (.iconst 0, 1) := by decide +kernel
theorem dX7_state_25 : decode cX7_state 25 = .ok (.istore_n 3, 1) := by decide +kernel
theorem dX7_state_26 : decode cX7_state 26 = .ok (.iconst 0, 1) := by decide +kernel
theorem dX7_state_27 : decode cX7_state 27 = .ok (.istore 4, 2) := by decide +kernel
theorem dX7_state_29 : decode cX7_state 29 = .ok (.iload 4, 2) := by decide +kernel
theorem dX7_state_31 : decode cX7_state 31 = .ok (.aload_n 0, 1) := by decide +kernel
theorem dX7_state_32 : decode cX7_state 32 = .ok (.invokevirtual 78, 3) := by decide +kernel
theorem dX7_state_35 : decode cX7_state 35 = .ok (.if_icmp .ge 29, 3) := by decide +kernel
theorem dX7_state_38 : decode cX7_state 38 = .ok (.iload_n 3, 1) := by decide +kernel
theorem dX7_state_39 : decode cX7_state 39 = .ok (.aload_n 0, 1) := by decide +kernel
theorem dX7_state_40 : decode cX7_state 40 = .ok (.iload_n 1, 1) := by decide +kernel
theorem dX7_state_41 : decode cX7_state 41 = .ok (.iload 4, 2) := by decide +kernel
theorem dX7_state_43 : decode cX7_state 43 = .ok (.invokevirtual 89, 3) := by decide +kernel
theorem dX7_state_46 : decode cX7_state 46 = .ok (.bipush (-9), 2) := by decide +kernel
theorem dX7_state_48 : decode cX7_state 48 = .ok (.if_icmp .ne 7, 3) := by decide +kernel
theorem dX7_state_51 : decode cX7_state 51 = .ok (.iconst 0, 1) := by decide +kernel
theorem dX7_state_52 : decode cX7_state 52 = .ok (.goto 4, 3) := by decide +kernel
theorem dX7_state_55 : decode cX7_state 55 = .ok (.iconst 1, 1) := by decide +kernel
theorem dX7_state_56 : decode cX7_state 56 = .ok (.iadd, 1) := by decide +kernel
theorem dX7_state_57 : decode cX7_state 57 = .ok (.istore_n 3, 1) := by decide +kernel
theorem dX7_state_58 : decode cX7_state 58 = .ok (.iinc 4 1, 3) := by decide +kernel
theorem dX7_state_61 : decode cX7_state 61 = .ok (.goto (-32), 3) := by decide +kernel
theorem dX7_state_64 : decode cX7_state 64 = .ok (.iload_n 2, 1) := by decide +kernel
theorem dX7_state_65 : decode cX7_state 65 = .ok (.ifCond .ne 7, 3) := by decide +kernel
theorem dX7_state_68 : decode cX7_state 68 = .ok (.iload_n 3, 1) := by decide +kernel
theorem dX7_state_69 : decode cX7_state 69 = .ok (.goto 11, 3) := by decide +kernel
theorem dX7_state_72 : decode cX7_state 72 = .ok (.aload_n 0, 1) := by decide +kernel
theorem dX7_state_73 : decode cX7_state 73 = .ok (.getfield 92, 3) := by decide +kernel
theorem dX7_state_76 : decode cX7_state 76 = .ok (.iload_n 1, 1) := by decide +kernel
theorem dX7_state_77 : decode cX7_state 77 = .ok (.ishr, 1) := by decide +kernel
theorem dX7_state_78 : decode cX7_state 78 = .ok (.iconst 1, 1) := by decide +kernel
theorem dX7_state_79 : decode cX7_state 79 = .ok (.iand, 1) := by decide +kernel
theorem dX7_state_80 : decode cX7_state 80 = .ok (.ireturn, 1) := by decide +kernel
theorem dX7_weighs_0 : decode cX7_weighs 0 = .ok (.iconst 0, 1) := by decide +kernel
theorem dX7_weighs_1 : decode cX7_weighs 1 = .ok (.istore_n 2, 1) := by decide +kernel
theorem dX7_weighs_2 : decode cX7_weighs 2 = .ok (.iload_n 2, 1) := by decide +kernel
theorem dX7_weighs_3 : decode cX7_weighs 3 = .ok (.aload_n 0, 1) := by decide +kernel
theorem dX7_weighs_4 : decode cX7_weighs 4 = .ok (.invokevirtual 82, 3) := by decide +kernel
theorem dX7_weighs_7 : decode cX7_weighs 7 = .ok (.if_icmp .ge 16, 3) := by decide +kernel
theorem dX7_weighs_10 : decode cX7_weighs 10 = .ok (.aload_n 0, 1) := by decide +kernel
theorem dX7_weighs_11 : decode cX7_weighs 11 = .ok (.getfield 38, 3) := by decide +kernel
theorem dX7_weighs_14 : decode cX7_weighs 14 = .ok (.iload_n 2, 1) := by decide +kernel
theorem dX7_weighs_15 : decode cX7_weighs 15 = .ok (.iload_n 1, 1) := by decide +kernel
theorem dX7_weighs_16 : decode cX7_weighs 16 = .ok (.iastore, 1) := by decide +kernel
theorem dX7_weighs_17 : decode cX7_weighs 17 = .ok (.iinc 2 1, 3) := by decide +kernel
theorem dX7_weighs_20 : decode cX7_weighs 20 = .ok (.goto (-18), 3) := by decide +kernel
theorem dX7_weighs_23 : decode cX7_weighs 23 = .ok (.iconst 1, 1) := by decide +kernel
theorem dX7_weighs_24 : decode cX7_weighs 24 = .ok (.istore_n 2, 1) := by decide +kernel
theorem dX7_weighs_25 : decode cX7_weighs 25 = .ok (.iload_n 2, 1) := by decide +kernel
theorem dX7_weighs_26 : decode cX7_weighs 26 = .ok (.ifCond .eq 170, 3) := by decide +kernel
theorem dX7_weighs_29 : decode cX7_weighs 29 = .ok (.iconst 0, 1) := by decide +kernel
theorem dX7_weighs_30 : decode cX7_weighs 30 = .ok (.istore_n 2, 1) := by decide +kernel
theorem dX7_weighs_31 : decode cX7_weighs 31 = .ok (.iconst 0, 1) := by decide +kernel
theorem dX7_weighs_32 : decode cX7_weighs 32 = .ok (.istore_n 3, 1) := by decide +kernel
theorem dX7_weighs_33 : decode cX7_weighs 33 = .ok (.iload_n 3, 1) := by decide +kernel
theorem dX7_weighs_34 : decode cX7_weighs 34 = .ok (.aload_n 0, 1) := by decide +kernel
theorem dX7_weighs_35 : decode cX7_weighs 35 = .ok (.invokevirtual 82, 3) := by decide +kernel
theorem dX7_weighs_38 : decode cX7_weighs 38 = .ok (.if_icmp .ge 102, 3) := by decide +kernel
theorem dX7_weighs_41 : decode cX7_weighs 41 = .ok (.iconst 0, 1) := by decide +kernel
theorem dX7_weighs_42 : decode cX7_weighs 42 = .ok (.istore 4, 2) := by decide +kernel
theorem dX7_weighs_44 : decode cX7_weighs 44 = .ok (.iconst 0, 1) := by decide +kernel
theorem dX7_weighs_45 : decode cX7_weighs 45 = .ok (.istore 5, 2) := by decide +kernel
theorem dX7_weighs_47 : decode cX7_weighs 47 = .ok (.iload 5, 2) := by decide +kernel
theorem dX7_weighs_49 : decode cX7_weighs 49 = .ok (.aload_n 0, 1) := by decide +kernel
theorem dX7_weighs_50 : decode cX7_weighs 50 = .ok (.invokevirtual 78, 3) := by decide +kernel
theorem dX7_weighs_53 : decode cX7_weighs 53 = .ok (.if_icmp .ge 42, 3) := by decide +kernel
theorem dX7_weighs_56 : decode cX7_weighs 56 = .ok (.iload 4, 2) := by decide +kernel
theorem dX7_weighs_58 : decode cX7_weighs 58 = .ok (.aload_n 0, 1) := by decide +kernel
theorem dX7_weighs_59 : decode cX7_weighs 59 = .ok (.iload_n 3, 1) := by decide +kernel
theorem dX7_weighs_60 : decode cX7_weighs 60 = .ok (.iload 5, 2) := by decide +kernel
theorem dX7_weighs_62 : decode cX7_weighs 62 = .ok (.invokevirtual 89, 3) := by decide +kernel
theorem dX7_weighs_65 : decode cX7_weighs 65 = .ok (.bipush (-9), 2) := by decide +kernel
theorem dX7_weighs_67 : decode cX7_weighs 67 = .ok (.if_icmp .ne 7, 3) := by decide +kernel
theorem dX7_weighs_70 : decode cX7_weighs 70 = .ok (.iconst 0, 1) := by decide +kernel
theorem dX7_weighs_71 : decode cX7_weighs 71 = .ok (.goto 15, 3) := by decide +kernel
theorem dX7_weighs_74 : decode cX7_weighs 74 = .ok (.aload_n 0, 1) := by decide +kernel
theorem dX7_weighs_75 : decode cX7_weighs 75 = .ok (.getfield 38, 3) := by decide +kernel
theorem dX7_weighs_78 : decode cX7_weighs 78 = .ok (.aload_n 0, 1) := by decide +kernel
theorem dX7_weighs_79 : decode cX7_weighs 79 = .ok (.iload_n 3, 1) := by decide +kernel
theorem dX7_weighs_80 : decode cX7_weighs 80 = .ok (.iload 5, 2) := by decide +kernel
theorem dX7_weighs_82 : decode cX7_weighs 82 = .ok (.invokevirtual 89, 3) := by decide +kernel
theorem dX7_weighs_85 : decode cX7_weighs 85 = .ok (.iaload, 1) := by decide +kernel
theorem dX7_weighs_86 : decode cX7_weighs 86 = .ok (.iadd, 1) := by decide +kernel
theorem dX7_weighs_87 : decode cX7_weighs 87 = .ok (.istore 4, 2) := by decide +kernel
theorem dX7_weighs_89 : decode cX7_weighs 89 = .ok (.iinc 5 1, 3) := by decide +kernel
theorem dX7_weighs_92 : decode cX7_weighs 92 = .ok (.goto (-45), 3) := by decide +kernel
theorem dX7_weighs_95 : decode cX7_weighs 95 = .ok (.iload 4, 2) := by decide +kernel
theorem dX7_weighs_97 : decode cX7_weighs 97 = .ok (.aload_n 0, 1) := by decide +kernel
theorem dX7_weighs_98 : decode cX7_weighs 98 = .ok (.getfield 7, 3) := by decide +kernel
theorem dX7_weighs_101 : decode cX7_weighs 101 = .ok (.iconst 3, 1) := by decide +kernel
theorem dX7_weighs_102 : decode cX7_weighs 102 = .ok (.iaload, 1) := by decide +kernel
theorem dX7_weighs_103 : decode cX7_weighs 103 = .ok (.ishr, 1) := by decide +kernel
theorem dX7_weighs_104 : decode cX7_weighs 104 = .ok (.istore 4, 2) := by decide +kernel
theorem dX7_weighs_106 : decode cX7_weighs 106 = .ok (.aload_n 0, 1) := by decide +kernel
theorem dX7_weighs_107 : decode cX7_weighs 107 = .ok (.getfield 41, 3) := by decide +kernel
theorem dX7_weighs_110 : decode cX7_weighs 110 = .ok (.iload_n 3, 1) := by decide +kernel
theorem dX7_weighs_111 : decode cX7_weighs 111 = .ok (.iload 4, 2) := by decide +kernel
theorem dX7_weighs_113 : decode cX7_weighs 113 = .ok (.aload_n 0, 1) := by decide +kernel
theorem dX7_weighs_114 : decode cX7_weighs 114 = .ok (.getfield 38, 3) := by decide +kernel
theorem dX7_weighs_117 : decode cX7_weighs 117 = .ok (.iload_n 3, 1) := by decide +kernel
theorem dX7_weighs_118 : decode cX7_weighs 118 = .ok (.iaload, 1) := by decide +kernel
theorem dX7_weighs_119 : decode cX7_weighs 119 = .ok (.if_icmp .ge 8, 3) := by decide +kernel
theorem dX7_weighs_122 : decode cX7_weighs 122 = .ok (.iload 4, 2) := by decide +kernel
theorem dX7_weighs_124 : decode cX7_weighs 124 = .ok (.goto 9, 3) := by decide +kernel
theorem dX7_weighs_127 : decode cX7_weighs 127 = .ok (.aload_n 0, 1) := by decide +kernel
theorem dX7_weighs_128 : decode cX7_weighs 128 = .ok (.getfield 38, 3) := by decide +kernel
theorem dX7_weighs_131 : decode cX7_weighs 131 = .ok (.iload_n 3, 1) := by decide +kernel
theorem dX7_weighs_132 : decode cX7_weighs 132 = .ok (.iaload, 1) := by decide +kernel
theorem dX7_weighs_133 : decode cX7_weighs 133 = .ok (.iastore, 1) := by decide +kernel
theorem dX7_weighs_134 : decode cX7_weighs 134 = .ok (.iinc 3 1, 3) := by decide +kernel
theorem dX7_weighs_137 : decode cX7_weighs 137 = .ok (.goto (-104), 3) := by decide +kernel
theorem dX7_weighs_140 : decode cX7_weighs 140 = .ok (.iconst 0, 1) := by decide +kernel
theorem dX7_weighs_141 : decode cX7_weighs 141 = .ok (.istore_n 3, 1) := by decide +kernel
theorem dX7_weighs_142 : decode cX7_weighs 142 = .ok (.iload_n 3, 1) := by decide +kernel
theorem dX7_weighs_143 : decode cX7_weighs 143 = .ok (.aload_n 0, 1) := by decide +kernel
theorem dX7_weighs_144 : decode cX7_weighs 144 = .ok (.invokevirtual 82, 3) := by decide +kernel
theorem dX7_weighs_147 : decode cX7_weighs 147 = .ok (.if_icmp .ge 46, 3) := by decide +kernel
theorem dX7_weighs_150 : decode cX7_weighs 150 = .ok (.iload_n 2, 1) := by decide +kernel
theorem dX7_weighs_151 : decode cX7_weighs 151 = .ok (.ifCond .ne 18, 3) := by decide +kernel
theorem dX7_weighs_154 : decode cX7_weighs 154 = .ok (.aload_n 0, 1) := by decide +kernel
theorem dX7_weighs_155 : decode cX7_weighs 155 = .ok (.getfield 41, 3) := by decide +kernel
theorem dX7_weighs_158 : decode cX7_weighs 158 = .ok (.iload_n 3, 1) := by decide +kernel
theorem dX7_weighs_159 : decode cX7_weighs 159 = .ok (.iaload, 1) := by decide +kernel
theorem dX7_weighs_160 : decode cX7_weighs 160 = .ok (.aload_n 0, 1) := by decide +kernel
theorem dX7_weighs_161 : decode cX7_weighs 161 = .ok (.getfield 38, 3) := by decide +kernel
theorem dX7_weighs_164 : decode cX7_weighs 164 = .ok (.iload_n 3, 1) := by decide +kernel
theorem dX7_weighs_165 : decode cX7_weighs 165 = .ok (.iaload, 1) := by decide +kernel
theorem dX7_weighs_166 : decode cX7_weighs 166 = .ok (.if_icmp .eq 7, 3) := by decide +kernel
theorem dX7_weighs_169 : decode cX7_weighs 169 = .ok (.iconst 1, 1) := by decide +kernel
theorem dX7_weighs_170 : decode cX7_weighs 170 = .ok (.goto 4, 3) := by decide +kernel
theorem dX7_weighs_173 : decode cX7_weighs 173 = .ok (.iconst 0, 1) := by decide +kernel
theorem dX7_weighs_174 : decode cX7_weighs 174 = .ok (.istore_n 2, 1) := by decide +kernel
theorem dX7_weighs_175 : decode cX7_weighs 175 = .ok (.aload_n 0, 1) := by decide +kernel
theorem dX7_weighs_176 : decode cX7_weighs 176 = .ok (.getfield 38, 3) := by decide +kernel
theorem dX7_weighs_179 : decode cX7_weighs 179 = .ok (.iload_n 3, 1) := by decide +kernel
theorem dX7_weighs_180 : decode cX7_weighs 180 = .ok (.aload_n 0, 1) := by decide +kernel
theorem dX7_weighs_181 : decode cX7_weighs 181 = .ok (.getfield 41, 3) := by decide +kernel
theorem dX7_weighs_184 : decode cX7_weighs 184 = .ok (.iload_n 3, 1) := by decide +kernel
theorem dX7_weighs_185 : decode cX7_weighs 185 = .ok (.iaload, 1) := by decide +kernel
theorem dX7_weighs_186 : decode cX7_weighs 186 = .ok (.iastore, 1) := by decide +kernel
theorem dX7_weighs_187 : decode cX7_weighs 187 = .ok (.iinc 3 1, 3) := by decide +kernel
theorem dX7_weighs_190 : decode cX7_weighs 190 = .ok (.goto (-48), 3) := by decide +kernel
theorem dX7_weighs_193 : decode cX7_weighs 193 = .ok (.goto (-168), 3) := by decide +kernel
theorem dX7_weighs_196 : decode cX7_weighs 196 = .ok (.return_, 1) := by decide +kernel
theorem dX7_weight_0 : decode cX7_weight 0 = .ok (.aload_n 0, 1) := by decide +kernel
theorem dX7_weight_1 : decode cX7_weight 1 = .ok (.iload_n 1, 1) := by decide +kernel
theorem dX7_weight_2 : decode cX7_weight 2 = .ok (.invokevirtual 152, 3) := by decide +kernel
theorem dX7_weight_5 : decode cX7_weight 5 = .ok (.ifCond .eq 25, 3) := by decide +kernel
theorem dX7_weight_8 : decode cX7_weight 8 = .ok (.iload_n 2, 1) := by decide +kernel
theorem dX7_weight_9 : decode cX7_weight 9 = .ok (.i2l, 1) := by decide +kernel
theorem dX7_weight_10 : decode cX7_weight 10 = .ok (.lconst 1, 1) := by decide +kernel
theorem dX7_weight_11 : decode cX7_weight 11 = .ok (.ldc2_w 155, 3) := by decide +kernel
theorem dX7_weight_14 : decode cX7_weight 14 = .ok (.invokestatic 70, 3) := by decide +kernel
theorem dX7_weight_17 : decode cX7_weight 17 = .ok (.ifCond .eq 13, 3) := by decide +kernel
theorem dX7_weight_20 : decode cX7_weight 20 = .ok (.iload_n 3, 1) := by decide +kernel
theorem dX7_weight_21 : decode cX7_weight 21 = .ok (.i2l, 1) := by decide +kernel
theorem dX7_weight_22 : decode cX7_weight 22 = .ok (.lconst 0, 1) := by decide +kernel
theorem dX7_weight_23 : decode cX7_weight 23 = .ok (.lconst 1, 1) := by decide +kernel
theorem dX7_weight_24 : decode cX7_weight 24 = .ok (.invokestatic 70, 3) := by decide +kernel
theorem dX7_weight_27 : decode cX7_weight 27 = .ok (.ifCond .ne 5, 3) := by decide +kernel
theorem dX7_weight_30 : decode cX7_weight 30 = .ok (.iconst (-1), 1) := by decide +kernel
theorem dX7_weight_31 : decode cX7_weight 31 = .ok (.ireturn, 1) := by decide +kernel
theorem dX7_weight_32 : decode cX7_weight 32 = .ok (.aload_n 0, 1) := by decide +kernel
theorem dX7_weight_33 : decode cX7_weight 33 = .ok (.invokevirtual 56, 3) := by decide +kernel
theorem dX7_weight_36 : decode cX7_weight 36 = .ok (.aload_n 0, 1) := by decide +kernel
theorem dX7_weight_37 : decode cX7_weight 37 = .ok (.iload_n 2, 1) := by decide +kernel
theorem dX7_weight_38 : decode cX7_weight 38 = .ok (.invokevirtual 157, 3) := by decide +kernel
theorem dX7_weight_41 : decode cX7_weight 41 = .ok (.iconst 0, 1) := by decide +kernel
theorem dX7_weight_42 : decode cX7_weight 42 = .ok (.istore 4, 2) := by decide +kernel
theorem dX7_weight_44 : decode cX7_weight 44 = .ok (.iconst 0, 1) := by decide +kernel
theorem dX7_weight_45 : decode cX7_weight 45 = .ok (.istore 5, 2) := by decide +kernel
theorem dX7_weight_47 : decode cX7_weight 47 = .ok (.iload 5, 2) := by decide +kernel
theorem dX7_weight_49 : decode cX7_weight 49 = .ok (.aload_n 0, 1) := by decide +kernel
theorem dX7_weight_50 : decode cX7_weight 50 = .ok (.invokevirtual 82, 3) := by decide +kernel
theorem dX7_weight_53 : decode cX7_weight 53 = .ok (.if_icmp .ge 21, 3) := by decide +kernel
theorem dX7_weight_56 : decode cX7_weight 56 = .ok (.iload 4, 2) := by decide +kernel
theorem dX7_weight_58 : decode cX7_weight 58 = .ok (.aload_n 0, 1) := by decide +kernel
theorem dX7_weight_59 : decode cX7_weight 59 = .ok (.getfield 38, 3) := by decide +kernel
theorem dX7_weight_62 : decode cX7_weight 62 = .ok (.iload 5, 2) := by decide +kernel
theorem dX7_weight_64 : decode cX7_weight 64 = .ok (.iaload, 1) := by decide +kernel
theorem dX7_weight_65 : decode cX7_weight 65 = .ok (.iadd, 1) := by decide +kernel
theorem dX7_weight_66 : decode cX7_weight 66 = .ok (.istore 4, 2) := by decide +kernel
theorem dX7_weight_68 : decode cX7_weight 68 = .ok (.iinc 5 1, 3) := by decide +kernel
theorem dX7_weight_71 : decode cX7_weight 71 = .ok (.goto (-24), 3) := by decide +kernel
theorem dX7_weight_74 : decode cX7_weight 74 = .ok (.iload_n 3, 1) := by decide +kernel
theorem dX7_weight_75 : decode cX7_weight 75 = .ok (.ifCond .ne 12, 3) := by decide +kernel
theorem dX7_weight_78 : decode cX7_weight 78 = .ok (.aload_n 0, 1) := by decide +kernel
theorem dX7_weight_79 : decode cX7_weight 79 = .ok (.getfield 38, 3) := by decide +kernel
theorem dX7_weight_82 : decode cX7_weight 82 = .ok (.iload_n 1, 1) := by decide +kernel
theorem dX7_weight_83 : decode cX7_weight 83 = .ok (.iaload, 1) := by decide +kernel
theorem dX7_weight_84 : decode cX7_weight 84 = .ok (.goto 25, 3) := by decide +kernel
theorem dX7_weight_87 : decode cX7_weight 87 = .ok (.iload 4, 2) := by decide +kernel
theorem dX7_weight_89 : decode cX7_weight 89 = .ok (.ifCond .ne 7, 3) := by decide +kernel
theorem dX7_weight_92 : decode cX7_weight 92 = .ok (.iconst 0, 1) := by decide +kernel
theorem dX7_weight_93 : decode cX7_weight 93 = .ok (.goto 16, 3) := by decide +kernel
theorem dX7_weight_96 : decode cX7_weight 96 = .ok (.sipush 1000, 3) := by decide +kernel
theorem dX7_weight_99 : decode cX7_weight 99 = .ok (.aload_n 0, 1) := by decide +kernel
theorem dX7_weight_100 : decode cX7_weight 100 = .ok (.getfield 38, 3) := by decide +kernel
theorem dX7_weight_103 : decode cX7_weight 103 = .ok (.iload_n 1, 1) := by decide +kernel
theorem dX7_weight_104 : decode cX7_weight 104 = .ok (.iaload, 1) := by decide +kernel
theorem dX7_weight_105 : decode cX7_weight 105 = .ok (.imul, 1) := by decide +kernel
theorem dX7_weight_106 : decode cX7_weight 106 = .ok (.iload 4, 2) := by decide +kernel
theorem dX7_weight_108 : decode cX7_weight 108 = .ok (.idiv, 1) := by decide +kernel
theorem dX7_weight_109 : decode cX7_weight 109 = .ok (.ireturn, 1) := by decide +kernel
theorem dX7_rows_0 : decode cX7_rows 0 = .ok (.iload_n 1, 1) := by decide +kernel
theorem dX7_rows_1 : decode cX7_rows 1 = .ok (.i2l, 1) := by decide +kernel
theorem dX7_rows_2 : decode cX7_rows 2 = .ok (.lconst 0, 1) := by decide +kernel
theorem dX7_rows_3 : decode cX7_rows 3 = .ok (.ldc2_w 161, 3) := by decide +kernel
theorem dX7_rows_6 : decode cX7_rows 6 = .ok (.invokestatic 70, 3) := by decide +kernel
theorem dX7_rows_9 : decode cX7_rows 9 = .ok (.ifCond .ne 5, 3) := by decide +kernel
theorem dX7_rows_12 : decode cX7_rows 12 = .ok (.iconst (-1), 1) := by decide +kernel
theorem dX7_rows_13 : decode cX7_rows 13 = .ok (.ireturn, 1) := by decide +kernel
theorem dX7_rows_14 : decode cX7_rows 14 = .ok (.iconst 0, 1) := by decide +kernel
theorem dX7_rows_15 : decode cX7_rows 15 = .ok (.istore_n 2, 1) := by decide +kernel
theorem dX7_rows_16 : decode cX7_rows 16 = .ok (.iload_n 2, 1) := by decide +kernel
theorem dX7_rows_17 : decode cX7_rows 17 = .ok (.aload_n 0, 1) := by decide +kernel
theorem dX7_rows_18 : decode cX7_rows 18 = .ok (.invokevirtual 82, 3) := by decide +kernel
theorem dX7_rows_21 : decode cX7_rows 21 = .ok (.if_icmp .ge 28, 3) := by decide +kernel
theorem dX7_rows_24 : decode cX7_rows 24 = .ok (.aload_n 0, 1) := by decide +kernel
theorem dX7_rows_25 : decode cX7_rows 25 = .ok (.getfield 44, 3) := by decide +kernel
theorem dX7_rows_28 : decode cX7_rows 28 = .ok (.iload_n 2, 1) := by decide +kernel
theorem dX7_rows_29 : decode cX7_rows 29 = .ok (.iload_n 2, 1) := by decide +kernel
theorem dX7_rows_30 : decode cX7_rows 30 = .ok (.aload_n 0, 1) := by decide +kernel
theorem dX7_rows_31 : decode cX7_rows 31 = .ok (.invokevirtual 163, 3) := by decide +kernel
theorem dX7_rows_34 : decode cX7_rows 34 = .ok (.if_icmp .ne 7, 3) := by decide +kernel
theorem dX7_rows_37 : decode cX7_rows 37 = .ok (.iconst 1, 1) := by decide +kernel
theorem dX7_rows_38 : decode cX7_rows 38 = .ok (.goto 4, 3) := by decide +kernel
theorem dX7_rows_41 : decode cX7_rows 41 = .ok (.iconst 0, 1) := by decide +kernel
theorem dX7_rows_42 : decode cX7_rows 42 = .ok (.iastore, 1) := by decide +kernel
theorem dX7_rows_43 : decode cX7_rows 43 = .ok (.iinc 2 1, 3) := by decide +kernel
theorem dX7_rows_46 : decode cX7_rows 46 = .ok (.goto (-30), 3) := by decide +kernel
theorem dX7_rows_49 : decode cX7_rows 49 = .ok (.iconst 0, 1) := by decide +kernel
theorem dX7_rows_50 : decode cX7_rows 50 = .ok (.istore_n 2, 1) := by decide +kernel
theorem dX7_rows_51 : decode cX7_rows 51 = .ok (.iload_n 2, 1) := by decide +kernel
theorem dX7_rows_52 : decode cX7_rows 52 = .ok (.iload_n 1, 1) := by decide +kernel
theorem dX7_rows_53 : decode cX7_rows 53 = .ok (.if_icmp .ge 115, 3) := by decide +kernel
theorem dX7_rows_56 : decode cX7_rows 56 = .ok (.iconst 0, 1) := by decide +kernel
theorem dX7_rows_57 : decode cX7_rows 57 = .ok (.istore_n 3, 1) := by decide +kernel
theorem dX7_rows_58 : decode cX7_rows 58 = .ok (.iload_n 3, 1) := by decide +kernel
theorem dX7_rows_59 : decode cX7_rows 59 = .ok (.aload_n 0, 1) := by decide +kernel
theorem dX7_rows_60 : decode cX7_rows 60 = .ok (.invokevirtual 82, 3) := by decide +kernel
theorem dX7_rows_63 : decode cX7_rows 63 = .ok (.if_icmp .ge 16, 3) := by decide +kernel
theorem dX7_rows_66 : decode cX7_rows 66 = .ok (.aload_n 0, 1) := by decide +kernel
theorem dX7_rows_67 : decode cX7_rows 67 = .ok (.getfield 47, 3) := by decide +kernel
theorem dX7_rows_70 : decode cX7_rows 70 = .ok (.iload_n 3, 1) := by decide +kernel
theorem dX7_rows_71 : decode cX7_rows 71 = .ok (.iconst 0, 1) := by decide +kernel
theorem dX7_rows_72 : decode cX7_rows 72 = .ok (.iastore, 1) := by decide +kernel
theorem dX7_rows_73 : decode cX7_rows 73 = .ok (.iinc 3 1, 3) := by decide +kernel
theorem dX7_rows_76 : decode cX7_rows 76 = .ok (.goto (-18), 3) := by decide +kernel
theorem dX7_rows_79 : decode cX7_rows 79 = .ok (.iconst 0, 1) := by decide +kernel
theorem dX7_rows_80 : decode cX7_rows 80 = .ok (.istore_n 3, 1) := by decide +kernel
theorem dX7_rows_81 : decode cX7_rows 81 = .ok (.iload_n 3, 1) := by decide +kernel
theorem dX7_rows_82 : decode cX7_rows 82 = .ok (.iconst 2, 1) := by decide +kernel
theorem dX7_rows_83 : decode cX7_rows 83 = .ok (.aload_n 0, 1) := by decide +kernel
theorem dX7_rows_84 : decode cX7_rows 84 = .ok (.invokevirtual 82, 3) := by decide +kernel
theorem dX7_rows_87 : decode cX7_rows 87 = .ok (.imul, 1) := by decide +kernel
theorem dX7_rows_88 : decode cX7_rows 88 = .ok (.if_icmp .ge 46, 3) := by decide +kernel
theorem dX7_rows_91 : decode cX7_rows 91 = .ok (.aload_n 0, 1) := by decide +kernel
theorem dX7_rows_92 : decode cX7_rows 92 = .ok (.iload_n 3, 1) := by decide +kernel
theorem dX7_rows_93 : decode cX7_rows 93 = .ok (.iconst 2, 1) := by decide +kernel
theorem dX7_rows_94 : decode cX7_rows 94 = .ok (.idiv, 1) := by decide +kernel
theorem dX7_rows_95 : decode cX7_rows 95 = .ok (.iload_n 3, 1) := by decide +kernel
theorem dX7_rows_96 : decode cX7_rows 96 = .ok (.iconst 2, 1) := by decide +kernel
theorem dX7_rows_97 : decode cX7_rows 97 = .ok (.irem, 1) := by decide +kernel
theorem dX7_rows_98 : decode cX7_rows 98 = .ok (.invokevirtual 85, 3) := by decide +kernel
theorem dX7_rows_101 : decode cX7_rows 101 = .ok (.istore 4, 2) := by decide +kernel
theorem dX7_rows_103 : decode cX7_rows 103 = .ok (.iload 4, 2) := by decide +kernel
theorem dX7_rows_105 : decode cX7_rows 105 = .ok (.bipush (-9), 2) := by decide +kernel
theorem dX7_rows_107 : decode cX7_rows 107 = .ok (.if_icmp .eq 21, 3) := by decide +kernel
theorem dX7_rows_110 : decode cX7_rows 110 = .ok (.aload_n 0, 1) := by decide +kernel
theorem dX7_rows_111 : decode cX7_rows 111 = .ok (.getfield 47, 3) := by decide +kernel
theorem dX7_rows_114 : decode cX7_rows 114 = .ok (.iload 4, 2) := by decide +kernel
theorem dX7_rows_116 : decode cX7_rows 116 = .ok (.dup2, 1) := by decide +kernel
theorem dX7_rows_117 : decode cX7_rows 117 = .ok (.iaload, 1) := by decide +kernel
theorem dX7_rows_118 : decode cX7_rows 118 = .ok (.aload_n 0, 1) := by decide +kernel
theorem dX7_rows_119 : decode cX7_rows 119 = .ok (.getfield 44, 3) := by decide +kernel
theorem dX7_rows_122 : decode cX7_rows 122 = .ok (.iload_n 3, 1) := by decide +kernel
theorem dX7_rows_123 : decode cX7_rows 123 = .ok (.iconst 2, 1) := by decide +kernel
theorem dX7_rows_124 : decode cX7_rows 124 = .ok (.idiv, 1) := by decide +kernel
theorem dX7_rows_125 : decode cX7_rows 125 = .ok (.iaload, 1) := by decide +kernel
theorem dX7_rows_126 : decode cX7_rows 126 = .ok (.iadd, 1) := by decide +kernel
theorem dX7_rows_127 : decode cX7_rows 127 = .ok (.iastore, 1) := by decide +kernel
theorem dX7_rows_128 : decode cX7_rows 128 = .ok (.iinc 3 1, 3) := by decide +kernel
theorem dX7_rows_131 : decode cX7_rows 131 = .ok (.goto (-50), 3) := by decide +kernel
theorem dX7_rows_134 : decode cX7_rows 134 = .ok (.iconst 0, 1) := by decide +kernel
theorem dX7_rows_135 : decode cX7_rows 135 = .ok (.istore_n 3, 1) := by decide +kernel
theorem dX7_rows_136 : decode cX7_rows 136 = .ok (.iload_n 3, 1) := by decide +kernel
theorem dX7_rows_137 : decode cX7_rows 137 = .ok (.aload_n 0, 1) := by decide +kernel
theorem dX7_rows_138 : decode cX7_rows 138 = .ok (.invokevirtual 82, 3) := by decide +kernel
theorem dX7_rows_141 : decode cX7_rows 141 = .ok (.if_icmp .ge 21, 3) := by decide +kernel
theorem dX7_rows_144 : decode cX7_rows 144 = .ok (.aload_n 0, 1) := by decide +kernel
theorem dX7_rows_145 : decode cX7_rows 145 = .ok (.getfield 44, 3) := by decide +kernel
theorem dX7_rows_148 : decode cX7_rows 148 = .ok (.iload_n 3, 1) := by decide +kernel
theorem dX7_rows_149 : decode cX7_rows 149 = .ok (.aload_n 0, 1) := by decide +kernel
theorem dX7_rows_150 : decode cX7_rows 150 = .ok (.getfield 47, 3) := by decide +kernel
theorem dX7_rows_153 : decode cX7_rows 153 = .ok (.iload_n 3, 1) := by decide +kernel
theorem dX7_rows_154 : decode cX7_rows 154 = .ok (.iaload, 1) := by decide +kernel
theorem dX7_rows_155 : decode cX7_rows 155 = .ok (.iastore, 1) := by decide +kernel
theorem dX7_rows_156 : decode cX7_rows 156 = .ok (.iinc 3 1, 3) := by decide +kernel
theorem dX7_rows_159 : decode cX7_rows 159 = .ok (.goto (-23), 3) := by decide +kernel
theorem dX7_rows_162 : decode cX7_rows 162 = .ok (.iinc 2 1, 3) := by decide +kernel
theorem dX7_rows_165 : decode cX7_rows 165 = .ok (.goto (-114), 3) := by decide +kernel
theorem dX7_rows_168 : decode cX7_rows 168 = .ok (.iconst 0, 1) := by decide +kernel
theorem dX7_rows_169 : decode cX7_rows 169 = .ok (.istore_n 2, 1) := by decide +kernel
theorem dX7_rows_170 : decode cX7_rows 170 = .ok (.iconst 0, 1) := by decide +kernel
theorem dX7_rows_171 : decode cX7_rows 171 = .ok (.istore_n 3, 1) := by decide +kernel
theorem dX7_rows_172 : decode cX7_rows 172 = .ok (.iload_n 3, 1) := by decide +kernel
theorem dX7_rows_173 : decode cX7_rows 173 = .ok (.aload_n 0, 1) := by decide +kernel
theorem dX7_rows_174 : decode cX7_rows 174 = .ok (.invokevirtual 82, 3) := by decide +kernel
theorem dX7_rows_177 : decode cX7_rows 177 = .ok (.if_icmp .ge 18, 3) := by decide +kernel
theorem dX7_rows_180 : decode cX7_rows 180 = .ok (.iload_n 2, 1) := by decide +kernel
theorem dX7_rows_181 : decode cX7_rows 181 = .ok (.aload_n 0, 1) := by decide +kernel
theorem dX7_rows_182 : decode cX7_rows 182 = .ok (.getfield 44, 3) := by decide +kernel
theorem dX7_rows_185 : decode cX7_rows 185 = .ok (.iload_n 3, 1) := by decide +kernel
theorem dX7_rows_186 : decode cX7_rows 186 = .ok (.iaload, 1) := by decide +kernel
theorem dX7_rows_187 : decode cX7_rows 187 = .ok (.iadd, 1) := by decide +kernel
theorem dX7_rows_188 : decode cX7_rows 188 = .ok (.istore_n 2, 1) := by decide +kernel
theorem dX7_rows_189 : decode cX7_rows 189 = .ok (.iinc 3 1, 3) := by decide +kernel
theorem dX7_rows_192 : decode cX7_rows 192 = .ok (.goto (-20), 3) := by decide +kernel
theorem dX7_rows_195 : decode cX7_rows 195 = .ok (.iload_n 2, 1) := by decide +kernel
theorem dX7_rows_196 : decode cX7_rows 196 = .ok (.ireturn, 1) := by decide +kernel
theorem dX7_goOn_0 : decode cX7_goOn 0 = .ok (.aload_n 0, 1) := by decide +kernel
theorem dX7_goOn_1 : decode cX7_goOn 1 = .ok (.iload_n 1, 1) := by decide +kernel
theorem dX7_goOn_2 : decode cX7_goOn 2 = .ok (.iload_n 3, 1) := by decide +kernel
theorem dX7_goOn_3 : decode cX7_goOn 3 = .ok (.invokevirtual 149, 3) := by decide +kernel
theorem dX7_goOn_6 : decode cX7_goOn 6 = .ok (.bipush (-9), 2) := by decide +kernel
theorem dX7_goOn_8 : decode cX7_goOn 8 = .ok (.if_icmp .eq 18, 3) := by decide +kernel
theorem dX7_goOn_11 : decode cX7_goOn 11 = .ok (.aload_n 0, 1) := by decide +kernel
theorem dX7_goOn_12 : decode cX7_goOn 12 = .ok (.iload_n 2, 1) := by decide +kernel
theorem dX7_goOn_13 : decode cX7_goOn 13 = .ok (.iload_n 3, 1) := by decide +kernel
theorem dX7_goOn_14 : decode cX7_goOn 14 = .ok (.invokevirtual 149, 3) := by decide +kernel
theorem dX7_goOn_17 : decode cX7_goOn 17 = .ok (.bipush (-9), 2) := by decide +kernel
theorem dX7_goOn_19 : decode cX7_goOn 19 = .ok (.if_icmp .eq 7, 3) := by decide +kernel
theorem dX7_goOn_22 : decode cX7_goOn 22 = .ok (.iconst 1, 1) := by decide +kernel
theorem dX7_goOn_23 : decode cX7_goOn 23 = .ok (.goto 4, 3) := by decide +kernel
theorem dX7_goOn_26 : decode cX7_goOn 26 = .ok (.iconst 0, 1) := by decide +kernel
theorem dX7_goOn_27 : decode cX7_goOn 27 = .ok (.istore 5, 2) := by decide +kernel
theorem dX7_goOn_29 : decode cX7_goOn 29 = .ok (.iload 5, 2) := by decide +kernel
theorem dX7_goOn_31 : decode cX7_goOn 31 = .ok (.ifCond .eq 37, 3) := by decide +kernel
theorem dX7_goOn_34 : decode cX7_goOn 34 = .ok (.aload_n 0, 1) := by decide +kernel
theorem dX7_goOn_35 : decode cX7_goOn 35 = .ok (.getfield 50, 3) := by decide +kernel
theorem dX7_goOn_38 : decode cX7_goOn 38 = .ok (.bipush 49, 2) := by decide +kernel
theorem dX7_goOn_40 : decode cX7_goOn 40 = .ok (.iload 4, 2) := by decide +kernel
theorem dX7_goOn_42 : decode cX7_goOn 42 = .ok (.imul, 1) := by decide +kernel
theorem dX7_goOn_43 : decode cX7_goOn 43 = .ok (.bipush 7, 2) := by decide +kernel
theorem dX7_goOn_45 : decode cX7_goOn 45 = .ok (.aload_n 0, 1) := by decide +kernel
theorem dX7_goOn_46 : decode cX7_goOn 46 = .ok (.iload_n 1, 1) := by decide +kernel
theorem dX7_goOn_47 : decode cX7_goOn 47 = .ok (.iload_n 3, 1) := by decide +kernel
theorem dX7_goOn_48 : decode cX7_goOn 48 = .ok (.invokevirtual 89, 3) := by decide +kernel
theorem dX7_goOn_51 : decode cX7_goOn 51 = .ok (.imul, 1) := by decide +kernel
theorem dX7_goOn_52 : decode cX7_goOn 52 = .ok (.iadd, 1) := by decide +kernel
theorem dX7_goOn_53 : decode cX7_goOn 53 = .ok (.aload_n 0, 1) := by decide +kernel
theorem dX7_goOn_54 : decode cX7_goOn 54 = .ok (.iload_n 2, 1) := by decide +kernel
theorem dX7_goOn_55 : decode cX7_goOn 55 = .ok (.iload_n 3, 1) := by decide +kernel
theorem dX7_goOn_56 : decode cX7_goOn 56 = .ok (.invokevirtual 89, 3) := by decide +kernel
theorem dX7_goOn_59 : decode cX7_goOn 59 = .ok (.iadd, 1) := by decide +kernel
theorem dX7_goOn_60 : decode cX7_goOn 60 = .ok (.baload, 1) := by decide +kernel
theorem dX7_goOn_61 : decode cX7_goOn 61 = .ok (.ifCond .eq 7, 3) := by decide +kernel
theorem dX7_goOn_64 : decode cX7_goOn 64 = .ok (.iconst 1, 1) := by decide +kernel
theorem dX7_goOn_65 : decode cX7_goOn 65 = .ok (.goto 4, 3) := by decide +kernel
theorem dX7_goOn_68 : decode cX7_goOn 68 = .ok (.iconst 0, 1) := by decide +kernel
theorem dX7_goOn_69 : decode cX7_goOn 69 = .ok (.ireturn, 1) := by decide +kernel
theorem dX7_layAlike_0 : decode cX7_layAlike 0 = .ok (.iconst 0, 1) := by decide +kernel
theorem dX7_layAlike_1 : decode cX7_layAlike 1 = .ok (.istore_n 1, 1) := by decide +kernel
theorem dX7_layAlike_2 : decode cX7_layAlike 2 = .ok (.iload_n 1, 1) := by decide +kernel
theorem dX7_layAlike_3 : decode cX7_layAlike 3 = .ok (.iconst 4, 1) := by decide +kernel
theorem dX7_layAlike_4 : decode cX7_layAlike 4 = .ok (.if_icmp .ge 112, 3) := by decide +kernel
theorem dX7_layAlike_7 : decode cX7_layAlike 7 = .ok (.iconst 0, 1) := by decide +kernel
theorem dX7_layAlike_8 : decode cX7_layAlike 8 = .ok (.istore_n 2, 1) := by decide +kernel
theorem dX7_layAlike_9 : decode cX7_layAlike 9 = .ok (.iload_n 2, 1) := by decide +kernel
theorem dX7_layAlike_10 : decode cX7_layAlike 10 = .ok (.bipush 49, 2) := by decide +kernel
theorem dX7_layAlike_12 : decode cX7_layAlike 12 = .ok (.if_icmp .ge 98, 3) := by decide +kernel
theorem dX7_layAlike_15 : decode cX7_layAlike 15 = .ok (.iload_n 2, 1) := by decide +kernel
theorem dX7_layAlike_16 : decode cX7_layAlike 16 = .ok (.bipush 7, 2) := by decide +kernel
theorem dX7_layAlike_18 : decode cX7_layAlike 18 = .ok (.idiv, 1) := by decide +kernel
theorem dX7_layAlike_19 : decode cX7_layAlike 19 = .ok (.istore_n 3, 1) := by decide +kernel
theorem dX7_layAlike_20 : decode cX7_layAlike 20 = .ok (.iload_n 2, 1) := by decide +kernel
theorem dX7_layAlike_21 : decode cX7_layAlike 21 = .ok (.bipush 7, 2) := by decide +kernel
theorem dX7_layAlike_23 : decode cX7_layAlike 23 = .ok (.irem, 1) := by decide +kernel
theorem dX7_layAlike_24 : decode cX7_layAlike 24 = .ok (.istore 4, 2) := by decide +kernel
theorem dX7_layAlike_26 : decode cX7_layAlike 26 = .ok (.iload_n 1, 1) := by decide +kernel
theorem dX7_layAlike_27 : decode cX7_layAlike 27 = .ok (.ifCond .ne 7, 3) := by decide +kernel
theorem dX7_layAlike_30 : decode cX7_layAlike 30 = .ok (.iconst 1, 1) := by decide +kernel
theorem dX7_layAlike_31 : decode cX7_layAlike 31 = .ok (.goto 4, 3) := by decide +kernel
theorem dX7_layAlike_34 : decode cX7_layAlike 34 = .ok (.iconst 0, 1) := by decide +kernel
theorem dX7_layAlike_35 : decode cX7_layAlike 35 = .ok (.istore 5, 2) := by decide +kernel
theorem dX7_layAlike_37 : decode cX7_layAlike 37 = .ok (.iconst 0, 1) := by decide +kernel
theorem dX7_layAlike_38 : decode cX7_layAlike 38 = .ok (.istore 6, 2) := by decide +kernel
theorem dX7_layAlike_40 : decode cX7_layAlike 40 = .ok (.iload 6, 2) := by decide +kernel
theorem dX7_layAlike_42 : decode cX7_layAlike 42 = .ok (.aload_n 0, 1) := by decide +kernel
theorem dX7_layAlike_43 : decode cX7_layAlike 43 = .ok (.invokevirtual 78, 3) := by decide +kernel
theorem dX7_layAlike_46 : decode cX7_layAlike 46 = .ok (.if_icmp .ge 45, 3) := by decide +kernel
theorem dX7_layAlike_49 : decode cX7_layAlike 49 = .ok (.iload 5, 2) := by decide +kernel
theorem dX7_layAlike_51 : decode cX7_layAlike 51 = .ok (.ifCond .ne 40, 3) := by decide +kernel
theorem dX7_layAlike_54 : decode cX7_layAlike 54 = .ok (.aload_n 0, 1) := by decide +kernel
theorem dX7_layAlike_55 : decode cX7_layAlike 55 = .ok (.iload_n 3, 1) := by decide +kernel
theorem dX7_layAlike_56 : decode cX7_layAlike 56 = .ok (.invokevirtual 152, 3) := by decide +kernel
theorem dX7_layAlike_59 : decode cX7_layAlike 59 = .ok (.ifCond .eq 32, 3) := by decide +kernel
theorem dX7_layAlike_62 : decode cX7_layAlike 62 = .ok (.aload_n 0, 1) := by decide +kernel
theorem dX7_layAlike_63 : decode cX7_layAlike 63 = .ok (.iload 4, 2) := by decide +kernel
theorem dX7_layAlike_65 : decode cX7_layAlike 65 = .ok (.invokevirtual 152, 3) := by decide +kernel
theorem dX7_layAlike_68 : decode cX7_layAlike 68 = .ok (.ifCond .eq 23, 3) := by decide +kernel
theorem dX7_layAlike_71 : decode cX7_layAlike 71 = .ok (.aload_n 0, 1) := by decide +kernel
theorem dX7_layAlike_72 : decode cX7_layAlike 72 = .ok (.iload_n 3, 1) := by decide +kernel
theorem dX7_layAlike_73 : decode cX7_layAlike 73 = .ok (.iload 4, 2) := by decide +kernel
theorem dX7_layAlike_75 : decode cX7_layAlike 75 = .ok (.iload 6, 2) := by decide +kernel
theorem dX7_layAlike_77 : decode cX7_layAlike 77 = .ok (.iload_n 1, 1) := by decide +kernel
theorem dX7_layAlike_78 : decode cX7_layAlike 78 = .ok (.iconst 1, 1) := by decide +kernel
theorem dX7_layAlike_79 : decode cX7_layAlike 79 = .ok (.isub, 1) := by decide +kernel
theorem dX7_layAlike_80 : decode cX7_layAlike 80 = .ok (.invokevirtual 166, 3) := by decide +kernel
theorem dX7_layAlike_83 : decode cX7_layAlike 83 = .ok (.istore 5, 2) := by decide +kernel
theorem dX7_layAlike_85 : decode cX7_layAlike 85 = .ok (.iinc 6 1, 3) := by decide +kernel
theorem dX7_layAlike_88 : decode cX7_layAlike 88 = .ok (.goto (-48), 3) := by decide +kernel
theorem dX7_layAlike_91 : decode cX7_layAlike 91 = .ok (.aload_n 0, 1) := by decide +kernel
theorem dX7_layAlike_92 : decode cX7_layAlike 92 = .ok (.getfield 50, 3) := by decide +kernel
theorem dX7_layAlike_95 : decode cX7_layAlike 95 = .ok (.bipush 49, 2) := by decide +kernel
theorem dX7_layAlike_97 : decode cX7_layAlike 97 = .ok (.iload_n 1, 1) := by decide +kernel
theorem dX7_layAlike_98 : decode cX7_layAlike 98 = .ok (.imul, 1) := by decide +kernel
theorem dX7_layAlike_99 : decode cX7_layAlike 99 = .ok (.iload_n 2, 1) := by decide +kernel
theorem dX7_layAlike_100 : decode cX7_layAlike 100 = .ok (.iadd, 1) := by decide +kernel
theorem dX7_layAlike_101 : decode cX7_layAlike 101 = .ok (.iload 5, 2) := by decide +kernel
theorem dX7_layAlike_103 : decode cX7_layAlike 103 = .ok (.bastore, 1) := by decide +kernel
theorem dX7_layAlike_104 : decode cX7_layAlike 104 = .ok (.iinc 2 1, 3) := by decide +kernel
theorem dX7_layAlike_107 : decode cX7_layAlike 107 = .ok (.goto (-98), 3) := by decide +kernel
theorem dX7_layAlike_110 : decode cX7_layAlike 110 = .ok (.iinc 1 1, 3) := by decide +kernel
theorem dX7_layAlike_113 : decode cX7_layAlike 113 = .ok (.goto (-111), 3) := by decide +kernel
theorem dX7_layAlike_116 : decode cX7_layAlike 116 = .ok (.return_, 1) := by decide +kernel
theorem dX7_isWide_0 : decode cX7_isWide 0 = .ok (.iconst 0, 1) := by decide +kernel
theorem dX7_isWide_1 : decode cX7_isWide 1 = .ok (.istore_n 2, 1) := by decide +kernel
theorem dX7_isWide_2 : decode cX7_isWide 2 = .ok (.iload_n 2, 1) := by decide +kernel
theorem dX7_isWide_3 : decode cX7_isWide 3 = .ok (.aload_n 0, 1) := by decide +kernel
theorem dX7_isWide_4 : decode cX7_isWide 4 = .ok (.invokevirtual 82, 3) := by decide +kernel
theorem dX7_isWide_7 : decode cX7_isWide 7 = .ok (.if_icmp .ge 71, 3) := by decide +kernel
theorem dX7_isWide_10 : decode cX7_isWide 10 = .ok (.iconst 0, 1) := by decide +kernel
theorem dX7_isWide_11 : decode cX7_isWide 11 = .ok (.istore_n 3, 1) := by decide +kernel
theorem dX7_isWide_12 : decode cX7_isWide 12 = .ok (.iload_n 3, 1) := by decide +kernel
theorem dX7_isWide_13 : decode cX7_isWide 13 = .ok (.iload_n 2, 1) := by decide +kernel
theorem dX7_isWide_14 : decode cX7_isWide 14 = .ok (.if_icmp .ge 58, 3) := by decide +kernel
theorem dX7_isWide_17 : decode cX7_isWide 17 = .ok (.iconst 0, 1) := by decide +kernel
theorem dX7_isWide_18 : decode cX7_isWide 18 = .ok (.istore 4, 2) := by decide +kernel
theorem dX7_isWide_20 : decode cX7_isWide 20 = .ok (.iload 4, 2) := by decide +kernel
theorem dX7_isWide_22 : decode cX7_isWide 22 = .ok (.aload_n 0, 1) := by decide +kernel
theorem dX7_isWide_23 : decode cX7_isWide 23 = .ok (.invokevirtual 78, 3) := by decide +kernel
theorem dX7_isWide_26 : decode cX7_isWide 26 = .ok (.if_icmp .ge 40, 3) := by decide +kernel
theorem dX7_isWide_29 : decode cX7_isWide 29 = .ok (.aload_n 0, 1) := by decide +kernel
theorem dX7_isWide_30 : decode cX7_isWide 30 = .ok (.iload_n 2, 1) := by decide +kernel
theorem dX7_isWide_31 : decode cX7_isWide 31 = .ok (.iload 4, 2) := by decide +kernel
theorem dX7_isWide_33 : decode cX7_isWide 33 = .ok (.invokevirtual 149, 3) := by decide +kernel
theorem dX7_isWide_36 : decode cX7_isWide 36 = .ok (.aload_n 0, 1) := by decide +kernel
theorem dX7_isWide_37 : decode cX7_isWide 37 = .ok (.iload_n 3, 1) := by decide +kernel
theorem dX7_isWide_38 : decode cX7_isWide 38 = .ok (.iload 4, 2) := by decide +kernel
theorem dX7_isWide_40 : decode cX7_isWide 40 = .ok (.invokevirtual 149, 3) := by decide +kernel
theorem dX7_isWide_43 : decode cX7_isWide 43 = .ok (.if_icmp .eq 17, 3) := by decide +kernel
theorem dX7_isWide_46 : decode cX7_isWide 46 = .ok (.aload_n 0, 1) := by decide +kernel
theorem dX7_isWide_47 : decode cX7_isWide 47 = .ok (.iload_n 2, 1) := by decide +kernel
theorem dX7_isWide_48 : decode cX7_isWide 48 = .ok (.iload_n 3, 1) := by decide +kernel
theorem dX7_isWide_49 : decode cX7_isWide 49 = .ok (.iload 4, 2) := by decide +kernel
theorem dX7_isWide_51 : decode cX7_isWide 51 = .ok (.iload_n 1, 1) := by decide +kernel
theorem dX7_isWide_52 : decode cX7_isWide 52 = .ok (.invokevirtual 166, 3) := by decide +kernel
theorem dX7_isWide_55 : decode cX7_isWide 55 = .ok (.ifCond .eq 5, 3) := by decide +kernel
theorem dX7_isWide_58 : decode cX7_isWide 58 = .ok (.iconst 0, 1) := by decide +kernel
theorem dX7_isWide_59 : decode cX7_isWide 59 = .ok (.ireturn, 1) := by decide +kernel
theorem dX7_isWide_60 : decode cX7_isWide 60 = .ok (.iinc 4 1, 3) := by decide +kernel
theorem dX7_isWide_63 : decode cX7_isWide 63 = .ok (.goto (-43), 3) := by decide +kernel
theorem dX7_isWide_66 : decode cX7_isWide 66 = .ok (.iinc 3 1, 3) := by decide +kernel
theorem dX7_isWide_69 : decode cX7_isWide 69 = .ok (.goto (-57), 3) := by decide +kernel
theorem dX7_isWide_72 : decode cX7_isWide 72 = .ok (.iinc 2 1, 3) := by decide +kernel
theorem dX7_isWide_75 : decode cX7_isWide 75 = .ok (.goto (-73), 3) := by decide +kernel
theorem dX7_isWide_78 : decode cX7_isWide 78 = .ok (.iconst 1, 1) := by decide +kernel
theorem dX7_isWide_79 : decode cX7_isWide 79 = .ok (.ireturn, 1) := by decide +kernel
theorem dX7_window_0 : decode cX7_window 0 = .ok (.aload_n 0, 1) := by decide +kernel
theorem dX7_window_1 : decode cX7_window 1 = .ok (.getfield 92, 3) := by decide +kernel
theorem dX7_window_4 : decode cX7_window 4 = .ok (.ifCond .ne 6, 3) := by decide +kernel
theorem dX7_window_7 : decode cX7_window 7 = .ok (.bipush (-9), 2) := by decide +kernel
theorem dX7_window_9 : decode cX7_window 9 = .ok (.ireturn, 1) := by decide +kernel
theorem dX7_window_10 : decode cX7_window 10 = .ok (.aload_n 0, 1) := by decide +kernel
theorem dX7_window_11 : decode cX7_window 11 = .ok (.invokevirtual 170, 3) := by decide +kernel
theorem dX7_window_14 : decode cX7_window 14 = .ok (.iconst 0, 1) := by decide +kernel
theorem dX7_window_15 : decode cX7_window 15 = .ok (.istore_n 1, 1) := by decide +kernel
theorem dX7_window_16 : decode cX7_window 16 = .ok (.iload_n 1, 1) := by decide +kernel
theorem dX7_window_17 : decode cX7_window 17 = .ok (.iconst 4, 1) := by decide +kernel
theorem dX7_window_18 : decode cX7_window 18 = .ok (.if_icmp .ge 19, 3) := by decide +kernel
theorem dX7_window_21 : decode cX7_window 21 = .ok (.aload_n 0, 1) := by decide +kernel
theorem dX7_window_22 : decode cX7_window 22 = .ok (.iload_n 1, 1) := by decide +kernel
theorem dX7_window_23 : decode cX7_window 23 = .ok (.invokevirtual 173, 3) := by decide +kernel
theorem dX7_window_26 : decode cX7_window 26 = .ok (.ifCond .eq 5, 3) := by decide +kernel
theorem dX7_window_29 : decode cX7_window 29 = .ok (.iload_n 1, 1) := by decide +kernel
theorem dX7_window_30 : decode cX7_window 30 = .ok (.ireturn, 1) := by decide +kernel
theorem dX7_window_31 : decode cX7_window 31 = .ok (.iinc 1 1, 3) := by decide +kernel
theorem dX7_window_34 : decode cX7_window 34 = .ok (.goto (-18), 3) := by decide +kernel
theorem dX7_window_37 : decode cX7_window 37 = .ok (.bipush (-9), 2) := by decide +kernel
theorem dX7_window_39 : decode cX7_window 39 = .ok (.ireturn, 1) := by decide +kernel
theorem dX7_byStates_0 : decode cX7_byStates 0 = .ok (.aload_n 0, 1) := by decide +kernel
theorem dX7_byStates_1 : decode cX7_byStates 1 = .ok (.getfield 59, 3) := by decide +kernel
theorem dX7_byStates_4 : decode cX7_byStates 4 = .ok (.istore_n 2, 1) := by decide +kernel
theorem dX7_byStates_5 : decode cX7_byStates 5 = .ok (.bipush (-9), 2) := by decide +kernel
theorem dX7_byStates_7 : decode cX7_byStates 7 = .ok (.istore_n 3, 1) := by decide +kernel
theorem dX7_byStates_8 : decode cX7_byStates 8 = .ok (.iconst 0, 1) := by decide +kernel
theorem dX7_byStates_9 : decode cX7_byStates 9 = .ok (.istore 4, 2) := by decide +kernel
theorem dX7_byStates_11 : decode cX7_byStates 11 = .ok (.iload 4, 2) := by decide +kernel
theorem dX7_byStates_13 : decode cX7_byStates 13 = .ok (.iload_n 1, 1) := by decide +kernel
theorem dX7_byStates_14 : decode cX7_byStates 14 = .ok (.if_icmp .gt 62, 3) := by decide +kernel
theorem dX7_byStates_17 : decode cX7_byStates 17 = .ok (.iload_n 2, 1) := by decide +kernel
theorem dX7_byStates_18 : decode cX7_byStates 18 = .ok (.bipush (-9), 2) := by decide +kernel
theorem dX7_byStates_20 : decode cX7_byStates 20 = .ok (.if_icmp .ne 8, 3) := by decide +kernel
theorem dX7_byStates_23 : decode cX7_byStates 23 = .ok (.bipush (-9), 2) := by decide +kernel
theorem dX7_byStates_25 : decode cX7_byStates 25 = .ok (.goto 18, 3) := by decide +kernel
theorem dX7_byStates_28 : decode cX7_byStates 28 = .ok (.aload_n 0, 1) := by decide +kernel
theorem dX7_byStates_29 : decode cX7_byStates 29 = .ok (.iload_n 2, 1) := by decide +kernel
theorem dX7_byStates_30 : decode cX7_byStates 30 = .ok (.aload_n 0, 1) := by decide +kernel
theorem dX7_byStates_31 : decode cX7_byStates 31 = .ok (.getfield 7, 3) := by decide +kernel
theorem dX7_byStates_34 : decode cX7_byStates 34 = .ok (.bipush 31, 2) := by decide +kernel
theorem dX7_byStates_36 : decode cX7_byStates 36 = .ok (.iload 4, 2) := by decide +kernel
theorem dX7_byStates_38 : decode cX7_byStates 38 = .ok (.iadd, 1) := by decide +kernel
theorem dX7_byStates_39 : decode cX7_byStates 39 = .ok (.iaload, 1) := by decide +kernel
theorem dX7_byStates_40 : decode cX7_byStates 40 = .ok (.invokevirtual 149, 3) := by decide +kernel
theorem dX7_byStates_43 : decode cX7_byStates 43 = .ok (.istore_n 3, 1) := by decide +kernel
theorem dX7_byStates_44 : decode cX7_byStates 44 = .ok (.iload_n 3, 1) := by decide +kernel
theorem dX7_byStates_45 : decode cX7_byStates 45 = .ok (.bipush (-9), 2) := by decide +kernel
theorem dX7_byStates_47 : decode cX7_byStates 47 = .ok (.if_icmp .ne 7, 3) := by decide +kernel
theorem dX7_byStates_50 : decode cX7_byStates 50 = .ok (.iload_n 2, 1) := by decide +kernel
theorem dX7_byStates_51 : decode cX7_byStates 51 = .ok (.goto 18, 3) := by decide +kernel
theorem dX7_byStates_54 : decode cX7_byStates 54 = .ok (.aload_n 0, 1) := by decide +kernel
theorem dX7_byStates_55 : decode cX7_byStates 55 = .ok (.iload_n 2, 1) := by decide +kernel
theorem dX7_byStates_56 : decode cX7_byStates 56 = .ok (.aload_n 0, 1) := by decide +kernel
theorem dX7_byStates_57 : decode cX7_byStates 57 = .ok (.getfield 7, 3) := by decide +kernel
theorem dX7_byStates_60 : decode cX7_byStates 60 = .ok (.bipush 31, 2) := by decide +kernel
theorem dX7_byStates_62 : decode cX7_byStates 62 = .ok (.iload 4, 2) := by decide +kernel
theorem dX7_byStates_64 : decode cX7_byStates 64 = .ok (.iadd, 1) := by decide +kernel
theorem dX7_byStates_65 : decode cX7_byStates 65 = .ok (.iaload, 1) := by decide +kernel
theorem dX7_byStates_66 : decode cX7_byStates 66 = .ok (.invokevirtual 89, 3) := by decide +kernel
theorem dX7_byStates_69 : decode cX7_byStates 69 = .ok (.istore_n 2, 1) := by decide +kernel
theorem dX7_byStates_70 : decode cX7_byStates 70 = .ok (.iinc 4 1, 3) := by decide +kernel
theorem dX7_byStates_73 : decode cX7_byStates 73 = .ok (.goto (-62), 3) := by decide +kernel
theorem dX7_byStates_76 : decode cX7_byStates 76 = .ok (.iload_n 3, 1) := by decide +kernel
theorem dX7_byStates_77 : decode cX7_byStates 77 = .ok (.ireturn, 1) := by decide +kernel
theorem dX7_byWindow_0 : decode cX7_byWindow 0 = .ok (.aload_n 0, 1) := by decide +kernel
theorem dX7_byWindow_1 : decode cX7_byWindow 1 = .ok (.invokevirtual 176, 3) := by decide +kernel
theorem dX7_byWindow_4 : decode cX7_byWindow 4 = .ok (.istore_n 2, 1) := by decide +kernel
theorem dX7_byWindow_5 : decode cX7_byWindow 5 = .ok (.iload_n 2, 1) := by decide +kernel
theorem dX7_byWindow_6 : decode cX7_byWindow 6 = .ok (.bipush (-9), 2) := by decide +kernel
theorem dX7_byWindow_8 : decode cX7_byWindow 8 = .ok (.if_icmp .eq 15, 3) := by decide +kernel
theorem dX7_byWindow_11 : decode cX7_byWindow 11 = .ok (.iload_n 1, 1) := by decide +kernel
theorem dX7_byWindow_12 : decode cX7_byWindow 12 = .ok (.iload_n 2, 1) := by decide +kernel
theorem dX7_byWindow_13 : decode cX7_byWindow 13 = .ok (.iadd, 1) := by decide +kernel
theorem dX7_byWindow_14 : decode cX7_byWindow 14 = .ok (.aload_n 0, 1) := by decide +kernel
theorem dX7_byWindow_15 : decode cX7_byWindow 15 = .ok (.getfield 7, 3) := by decide +kernel
theorem dX7_byWindow_18 : decode cX7_byWindow 18 = .ok (.iconst 5, 1) := by decide +kernel
theorem dX7_byWindow_19 : decode cX7_byWindow 19 = .ok (.iaload, 1) := by decide +kernel
theorem dX7_byWindow_20 : decode cX7_byWindow 20 = .ok (.if_icmp .lt 6, 3) := by decide +kernel
theorem dX7_byWindow_23 : decode cX7_byWindow 23 = .ok (.bipush (-9), 2) := by decide +kernel
theorem dX7_byWindow_25 : decode cX7_byWindow 25 = .ok (.ireturn, 1) := by decide +kernel
theorem dX7_byWindow_26 : decode cX7_byWindow 26 = .ok (.bipush (-9), 2) := by decide +kernel
theorem dX7_byWindow_28 : decode cX7_byWindow 28 = .ok (.istore_n 3, 1) := by decide +kernel
theorem dX7_byWindow_29 : decode cX7_byWindow 29 = .ok (.iconst 0, 1) := by decide +kernel
theorem dX7_byWindow_30 : decode cX7_byWindow 30 = .ok (.istore 4, 2) := by decide +kernel
theorem dX7_byWindow_32 : decode cX7_byWindow 32 = .ok (.iload 4, 2) := by decide +kernel
theorem dX7_byWindow_34 : decode cX7_byWindow 34 = .ok (.aload_n 0, 1) := by decide +kernel
theorem dX7_byWindow_35 : decode cX7_byWindow 35 = .ok (.invokevirtual 82, 3) := by decide +kernel
theorem dX7_byWindow_38 : decode cX7_byWindow 38 = .ok (.if_icmp .ge 108, 3) := by decide +kernel
theorem dX7_byWindow_41 : decode cX7_byWindow 41 = .ok (.iload 4, 2) := by decide +kernel
theorem dX7_byWindow_43 : decode cX7_byWindow 43 = .ok (.istore 5, 2) := by decide +kernel
theorem dX7_byWindow_45 : decode cX7_byWindow 45 = .ok (.iload_n 1, 1) := by decide +kernel
theorem dX7_byWindow_46 : decode cX7_byWindow 46 = .ok (.istore 6, 2) := by decide +kernel
theorem dX7_byWindow_48 : decode cX7_byWindow 48 = .ok (.iload 6, 2) := by decide +kernel
theorem dX7_byWindow_50 : decode cX7_byWindow 50 = .ok (.iload_n 1, 1) := by decide +kernel
theorem dX7_byWindow_51 : decode cX7_byWindow 51 = .ok (.iload_n 2, 1) := by decide +kernel
theorem dX7_byWindow_52 : decode cX7_byWindow 52 = .ok (.iadd, 1) := by decide +kernel
theorem dX7_byWindow_53 : decode cX7_byWindow 53 = .ok (.if_icmp .gt 60, 3) := by decide +kernel
theorem dX7_byWindow_56 : decode cX7_byWindow 56 = .ok (.iload 5, 2) := by decide +kernel
theorem dX7_byWindow_58 : decode cX7_byWindow 58 = .ok (.bipush (-9), 2) := by decide +kernel
theorem dX7_byWindow_60 : decode cX7_byWindow 60 = .ok (.if_icmp .eq 53, 3) := by decide +kernel
theorem dX7_byWindow_63 : decode cX7_byWindow 63 = .ok (.aload_n 0, 1) := by decide +kernel
theorem dX7_byWindow_64 : decode cX7_byWindow 64 = .ok (.iload 5, 2) := by decide +kernel
theorem dX7_byWindow_66 : decode cX7_byWindow 66 = .ok (.aload_n 0, 1) := by decide +kernel
theorem dX7_byWindow_67 : decode cX7_byWindow 67 = .ok (.getfield 7, 3) := by decide +kernel
theorem dX7_byWindow_70 : decode cX7_byWindow 70 = .ok (.bipush 31, 2) := by decide +kernel
theorem dX7_byWindow_72 : decode cX7_byWindow 72 = .ok (.iload 6, 2) := by decide +kernel
theorem dX7_byWindow_74 : decode cX7_byWindow 74 = .ok (.iadd, 1) := by decide +kernel
theorem dX7_byWindow_75 : decode cX7_byWindow 75 = .ok (.iaload, 1) := by decide +kernel
theorem dX7_byWindow_76 : decode cX7_byWindow 76 = .ok (.invokevirtual 149, 3) := by decide +kernel
theorem dX7_byWindow_79 : decode cX7_byWindow 79 = .ok (.bipush (-9), 2) := by decide +kernel
theorem dX7_byWindow_81 : decode cX7_byWindow 81 = .ok (.if_icmp .ne 8, 3) := by decide +kernel
theorem dX7_byWindow_84 : decode cX7_byWindow 84 = .ok (.bipush (-9), 2) := by decide +kernel
theorem dX7_byWindow_86 : decode cX7_byWindow 86 = .ok (.goto 19, 3) := by decide +kernel
theorem dX7_byWindow_89 : decode cX7_byWindow 89 = .ok (.aload_n 0, 1) := by decide +kernel
theorem dX7_byWindow_90 : decode cX7_byWindow 90 = .ok (.iload 5, 2) := by decide +kernel
theorem dX7_byWindow_92 : decode cX7_byWindow 92 = .ok (.aload_n 0, 1) := by decide +kernel
theorem dX7_byWindow_93 : decode cX7_byWindow 93 = .ok (.getfield 7, 3) := by decide +kernel
theorem dX7_byWindow_96 : decode cX7_byWindow 96 = .ok (.bipush 31, 2) := by decide +kernel
theorem dX7_byWindow_98 : decode cX7_byWindow 98 = .ok (.iload 6, 2) := by decide +kernel
theorem dX7_byWindow_100 : decode cX7_byWindow 100 = .ok (.iadd, 1) := by decide +kernel
theorem dX7_byWindow_101 : decode cX7_byWindow 101 = .ok (.iaload, 1) := by decide +kernel
theorem dX7_byWindow_102 : decode cX7_byWindow 102 = .ok (.invokevirtual 89, 3) := by decide +kernel
theorem dX7_byWindow_105 : decode cX7_byWindow 105 = .ok (.istore 5, 2) := by decide +kernel
theorem dX7_byWindow_107 : decode cX7_byWindow 107 = .ok (.iinc 6 1, 3) := by decide +kernel
theorem dX7_byWindow_110 : decode cX7_byWindow 110 = .ok (.goto (-62), 3) := by decide +kernel
theorem dX7_byWindow_113 : decode cX7_byWindow 113 = .ok (.iload 5, 2) := by decide +kernel
theorem dX7_byWindow_115 : decode cX7_byWindow 115 = .ok (.bipush (-9), 2) := by decide +kernel
theorem dX7_byWindow_117 : decode cX7_byWindow 117 = .ok (.if_icmp .ne 7, 3) := by decide +kernel
theorem dX7_byWindow_120 : decode cX7_byWindow 120 = .ok (.iload_n 3, 1) := by decide +kernel
theorem dX7_byWindow_121 : decode cX7_byWindow 121 = .ok (.goto 18, 3) := by decide +kernel
theorem dX7_byWindow_124 : decode cX7_byWindow 124 = .ok (.aload_n 0, 1) := by decide +kernel
theorem dX7_byWindow_125 : decode cX7_byWindow 125 = .ok (.iload 4, 2) := by decide +kernel
theorem dX7_byWindow_127 : decode cX7_byWindow 127 = .ok (.aload_n 0, 1) := by decide +kernel
theorem dX7_byWindow_128 : decode cX7_byWindow 128 = .ok (.getfield 7, 3) := by decide +kernel
theorem dX7_byWindow_131 : decode cX7_byWindow 131 = .ok (.bipush 31, 2) := by decide +kernel
theorem dX7_byWindow_133 : decode cX7_byWindow 133 = .ok (.iload_n 1, 1) := by decide +kernel
theorem dX7_byWindow_134 : decode cX7_byWindow 134 = .ok (.iadd, 1) := by decide +kernel
theorem dX7_byWindow_135 : decode cX7_byWindow 135 = .ok (.iaload, 1) := by decide +kernel
theorem dX7_byWindow_136 : decode cX7_byWindow 136 = .ok (.invokevirtual 149, 3) := by decide +kernel
theorem dX7_byWindow_139 : decode cX7_byWindow 139 = .ok (.istore_n 3, 1) := by decide +kernel
theorem dX7_byWindow_140 : decode cX7_byWindow 140 = .ok (.iinc 4 1, 3) := by decide +kernel
theorem dX7_byWindow_143 : decode cX7_byWindow 143 = .ok (.goto (-111), 3) := by decide +kernel
theorem dX7_byWindow_146 : decode cX7_byWindow 146 = .ok (.iload_n 3, 1) := by decide +kernel
theorem dX7_byWindow_147 : decode cX7_byWindow 147 = .ok (.ireturn, 1) := by decide +kernel
theorem dX7_word_0 : decode cX7_word 0 = .ok (.iload_n 1, 1) := by decide +kernel
theorem dX7_word_1 : decode cX7_word 1 = .ok (.i2l, 1) := by decide +kernel
theorem dX7_word_2 : decode cX7_word 2 = .ok (.lconst 0, 1) := by decide +kernel
theorem dX7_word_3 : decode cX7_word 3 = .ok (.aload_n 0, 1) := by decide +kernel
theorem dX7_word_4 : decode cX7_word 4 = .ok (.getfield 7, 3) := by decide +kernel
theorem dX7_word_7 : decode cX7_word 7 = .ok (.iconst 5, 1) := by decide +kernel
theorem dX7_word_8 : decode cX7_word 8 = .ok (.iaload, 1) := by decide +kernel
theorem dX7_word_9 : decode cX7_word 9 = .ok (.iconst 1, 1) := by decide +kernel
theorem dX7_word_10 : decode cX7_word 10 = .ok (.isub, 1) := by decide +kernel
theorem dX7_word_11 : decode cX7_word 11 = .ok (.i2l, 1) := by decide +kernel
theorem dX7_word_12 : decode cX7_word 12 = .ok (.invokestatic 70, 3) := by decide +kernel
theorem dX7_word_15 : decode cX7_word 15 = .ok (.ifCond .eq 15, 3) := by decide +kernel
theorem dX7_word_18 : decode cX7_word 18 = .ok (.iload_n 2, 1) := by decide +kernel
theorem dX7_word_19 : decode cX7_word 19 = .ok (.i2l, 1) := by decide +kernel
theorem dX7_word_20 : decode cX7_word 20 = .ok (.lconst 0, 1) := by decide +kernel
theorem dX7_word_21 : decode cX7_word 21 = .ok (.ldc2_w 179, 3) := by decide +kernel
theorem dX7_word_24 : decode cX7_word 24 = .ok (.invokestatic 70, 3) := by decide +kernel
theorem dX7_word_27 : decode cX7_word 27 = .ok (.ifCond .ne 5, 3) := by decide +kernel
theorem dX7_word_30 : decode cX7_word 30 = .ok (.iconst (-1), 1) := by decide +kernel
theorem dX7_word_31 : decode cX7_word 31 = .ok (.ireturn, 1) := by decide +kernel
theorem dX7_word_32 : decode cX7_word 32 = .ok (.aload_n 0, 1) := by decide +kernel
theorem dX7_word_33 : decode cX7_word 33 = .ok (.invokevirtual 56, 3) := by decide +kernel
theorem dX7_word_36 : decode cX7_word 36 = .ok (.iload_n 2, 1) := by decide +kernel
theorem dX7_word_37 : decode cX7_word 37 = .ok (.ifCond .ne 15, 3) := by decide +kernel
theorem dX7_word_40 : decode cX7_word 40 = .ok (.aload_n 0, 1) := by decide +kernel
theorem dX7_word_41 : decode cX7_word 41 = .ok (.getfield 7, 3) := by decide +kernel
theorem dX7_word_44 : decode cX7_word 44 = .ok (.bipush 31, 2) := by decide +kernel
theorem dX7_word_46 : decode cX7_word 46 = .ok (.iload_n 1, 1) := by decide +kernel
theorem dX7_word_47 : decode cX7_word 47 = .ok (.iadd, 1) := by decide +kernel
theorem dX7_word_48 : decode cX7_word 48 = .ok (.iaload, 1) := by decide +kernel
theorem dX7_word_49 : decode cX7_word 49 = .ok (.goto 38, 3) := by decide +kernel
theorem dX7_word_52 : decode cX7_word 52 = .ok (.iload_n 2, 1) := by decide +kernel
theorem dX7_word_53 : decode cX7_word 53 = .ok (.iconst 1, 1) := by decide +kernel
theorem dX7_word_54 : decode cX7_word 54 = .ok (.if_icmp .ne 15, 3) := by decide +kernel
theorem dX7_word_57 : decode cX7_word 57 = .ok (.aload_n 0, 1) := by decide +kernel
theorem dX7_word_58 : decode cX7_word 58 = .ok (.getfield 7, 3) := by decide +kernel
theorem dX7_word_61 : decode cX7_word 61 = .ok (.bipush 55, 2) := by decide +kernel
theorem dX7_word_63 : decode cX7_word 63 = .ok (.iload_n 1, 1) := by decide +kernel
theorem dX7_word_64 : decode cX7_word 64 = .ok (.iadd, 1) := by decide +kernel
theorem dX7_word_65 : decode cX7_word 65 = .ok (.iaload, 1) := by decide +kernel
theorem dX7_word_66 : decode cX7_word 66 = .ok (.goto 21, 3) := by decide +kernel
theorem dX7_word_69 : decode cX7_word 69 = .ok (.iload_n 2, 1) := by decide +kernel
theorem dX7_word_70 : decode cX7_word 70 = .ok (.iconst 2, 1) := by decide +kernel
theorem dX7_word_71 : decode cX7_word 71 = .ok (.if_icmp .ne 11, 3) := by decide +kernel
theorem dX7_word_74 : decode cX7_word 74 = .ok (.aload_n 0, 1) := by decide +kernel
theorem dX7_word_75 : decode cX7_word 75 = .ok (.iload_n 1, 1) := by decide +kernel
theorem dX7_word_76 : decode cX7_word 76 = .ok (.invokevirtual 181, 3) := by decide +kernel
theorem dX7_word_79 : decode cX7_word 79 = .ok (.goto 8, 3) := by decide +kernel
theorem dX7_word_82 : decode cX7_word 82 = .ok (.aload_n 0, 1) := by decide +kernel
theorem dX7_word_83 : decode cX7_word 83 = .ok (.iload_n 1, 1) := by decide +kernel
theorem dX7_word_84 : decode cX7_word 84 = .ok (.invokevirtual 184, 3) := by decide +kernel
theorem dX7_word_87 : decode cX7_word 87 = .ok (.ireturn, 1) := by decide +kernel
theorem dX7_wrong_0 : decode cX7_wrong 0 = .ok (.iload_n 1, 1) := by decide +kernel
theorem dX7_wrong_1 : decode cX7_wrong 1 = .ok (.i2l, 1) := by decide +kernel
theorem dX7_wrong_2 : decode cX7_wrong 2 = .ok (.lconst 0, 1) := by decide +kernel
theorem dX7_wrong_3 : decode cX7_wrong 3 = .ok (.lconst 1, 1) := by decide +kernel
theorem dX7_wrong_4 : decode cX7_wrong 4 = .ok (.invokestatic 70, 3) := by decide +kernel
theorem dX7_wrong_7 : decode cX7_wrong 7 = .ok (.ifCond .ne 5, 3) := by decide +kernel
theorem dX7_wrong_10 : decode cX7_wrong 10 = .ok (.iconst (-1), 1) := by decide +kernel
theorem dX7_wrong_11 : decode cX7_wrong 11 = .ok (.ireturn, 1) := by decide +kernel
theorem dX7_wrong_12 : decode cX7_wrong 12 = .ok (.aload_n 0, 1) := by decide +kernel
theorem dX7_wrong_13 : decode cX7_wrong 13 = .ok (.invokevirtual 56, 3) := by decide +kernel
theorem dX7_wrong_16 : decode cX7_wrong 16 = .ok (.iconst 0, 1) := by decide +kernel
theorem dX7_wrong_17 : decode cX7_wrong 17 = .ok (.istore_n 2, 1) := by decide +kernel
theorem dX7_wrong_18 : decode cX7_wrong 18 = .ok (.iconst 0, 1) := by decide +kernel
theorem dX7_wrong_19 : decode cX7_wrong 19 = .ok (.istore_n 3, 1) := by decide +kernel
theorem dX7_wrong_20 : decode cX7_wrong 20 = .ok (.iload_n 3, 1) := by decide +kernel
theorem dX7_wrong_21 : decode cX7_wrong 21 = .ok (.aload_n 0, 1) := by decide +kernel
theorem dX7_wrong_22 : decode cX7_wrong 22 = .ok (.getfield 7, 3) := by decide +kernel
theorem dX7_wrong_25 : decode cX7_wrong 25 = .ok (.iconst 5, 1) := by decide +kernel
theorem dX7_wrong_26 : decode cX7_wrong 26 = .ok (.iaload, 1) := by decide +kernel
theorem dX7_wrong_27 : decode cX7_wrong 27 = .ok (.if_icmp .ge 46, 3) := by decide +kernel
theorem dX7_wrong_30 : decode cX7_wrong 30 = .ok (.iload_n 2, 1) := by decide +kernel
theorem dX7_wrong_31 : decode cX7_wrong 31 = .ok (.iload_n 1, 1) := by decide +kernel
theorem dX7_wrong_32 : decode cX7_wrong 32 = .ok (.ifCond .ne 11, 3) := by decide +kernel
theorem dX7_wrong_35 : decode cX7_wrong 35 = .ok (.aload_n 0, 1) := by decide +kernel
theorem dX7_wrong_36 : decode cX7_wrong 36 = .ok (.iload_n 3, 1) := by decide +kernel
theorem dX7_wrong_37 : decode cX7_wrong 37 = .ok (.invokevirtual 181, 3) := by decide +kernel
theorem dX7_wrong_40 : decode cX7_wrong 40 = .ok (.goto 8, 3) := by decide +kernel
theorem dX7_wrong_43 : decode cX7_wrong 43 = .ok (.aload_n 0, 1) := by decide +kernel
theorem dX7_wrong_44 : decode cX7_wrong 44 = .ok (.iload_n 3, 1) := by decide +kernel
theorem dX7_wrong_45 : decode cX7_wrong 45 = .ok (.invokevirtual 184, 3) := by decide +kernel
theorem dX7_wrong_48 : decode cX7_wrong 48 = .ok (.aload_n 0, 1) := by decide +kernel
theorem dX7_wrong_49 : decode cX7_wrong 49 = .ok (.getfield 7, 3) := by decide +kernel
theorem dX7_wrong_52 : decode cX7_wrong 52 = .ok (.bipush 55, 2) := by decide +kernel
theorem dX7_wrong_54 : decode cX7_wrong 54 = .ok (.iload_n 3, 1) := by decide +kernel
theorem dX7_wrong_55 : decode cX7_wrong 55 = .ok (.iadd, 1) := by decide +kernel
theorem dX7_wrong_56 : decode cX7_wrong 56 = .ok (.iaload, 1) := by decide +kernel
theorem dX7_wrong_57 : decode cX7_wrong 57 = .ok (.if_icmp .eq 7, 3) := by decide +kernel
theorem dX7_wrong_60 : decode cX7_wrong 60 = .ok (.iconst 1, 1) := by decide +kernel
theorem dX7_wrong_61 : decode cX7_wrong 61 = .ok (.goto 4, 3) := by decide +kernel
theorem dX7_wrong_64 : decode cX7_wrong 64 = .ok (.iconst 0, 1) := by decide +kernel
theorem dX7_wrong_65 : decode cX7_wrong 65 = .ok (.iadd, 1) := by decide +kernel
theorem dX7_wrong_66 : decode cX7_wrong 66 = .ok (.istore_n 2, 1) := by decide +kernel
theorem dX7_wrong_67 : decode cX7_wrong 67 = .ok (.iinc 3 1, 3) := by decide +kernel
theorem dX7_wrong_70 : decode cX7_wrong 70 = .ok (.goto (-50), 3) := by decide +kernel
theorem dX7_wrong_73 : decode cX7_wrong 73 = .ok (.iload_n 2, 1) := by decide +kernel
theorem dX7_wrong_74 : decode cX7_wrong 74 = .ok (.ireturn, 1) := by decide +kernel
theorem dX7_sees_0 : decode cX7_sees 0 = .ok (.iload_n 1, 1) := by decide +kernel
theorem dX7_sees_1 : decode cX7_sees 1 = .ok (.i2l, 1) := by decide +kernel
theorem dX7_sees_2 : decode cX7_sees 2 = .ok (.lconst 0, 1) := by decide +kernel
theorem dX7_sees_3 : decode cX7_sees 3 = .ok (.aload_n 0, 1) := by decide +kernel
theorem dX7_sees_4 : decode cX7_sees 4 = .ok (.invokevirtual 78, 3) := by decide +kernel
theorem dX7_sees_7 : decode cX7_sees 7 = .ok (.iconst 1, 1) := by decide +kernel
theorem dX7_sees_8 : decode cX7_sees 8 = .ok (.isub, 1) := by decide +kernel
theorem dX7_sees_9 : decode cX7_sees 9 = .ok (.i2l, 1) := by decide +kernel
theorem dX7_sees_10 : decode cX7_sees 10 = .ok (.invokestatic 70, 3) := by decide +kernel
theorem dX7_sees_13 : decode cX7_sees 13 = .ok (.ifCond .ne 5, 3) := by decide +kernel
theorem dX7_sees_16 : decode cX7_sees 16 = .ok (.iconst (-1), 1) := by decide +kernel
theorem dX7_sees_17 : decode cX7_sees 17 = .ok (.ireturn, 1) := by decide +kernel
theorem dX7_sees_18 : decode cX7_sees 18 = .ok (.aload_n 0, 1) := by decide +kernel
theorem dX7_sees_19 : decode cX7_sees 19 = .ok (.getfield 143, 3) := by decide +kernel
theorem dX7_sees_22 : decode cX7_sees 22 = .ok (.bipush 6, 2) := by decide +kernel
theorem dX7_sees_24 : decode cX7_sees 24 = .ok (.if_icmp .ne 6, 3) := by decide +kernel
theorem dX7_sees_27 : decode cX7_sees 27 = .ok (.bipush (-3), 2) := by decide +kernel
theorem dX7_sees_29 : decode cX7_sees 29 = .ok (.ireturn, 1) := by decide +kernel
theorem dX7_sees_30 : decode cX7_sees 30 = .ok (.aload_n 0, 1) := by decide +kernel
theorem dX7_sees_31 : decode cX7_sees 31 = .ok (.getfield 23, 3) := by decide +kernel
theorem dX7_sees_34 : decode cX7_sees 34 = .ok (.aload_n 0, 1) := by decide +kernel
theorem dX7_sees_35 : decode cX7_sees 35 = .ok (.getfield 143, 3) := by decide +kernel
theorem dX7_sees_38 : decode cX7_sees 38 = .ok (.iload_n 1, 1) := by decide +kernel
theorem dX7_sees_39 : decode cX7_sees 39 = .ok (.iastore, 1) := by decide +kernel
theorem dX7_sees_40 : decode cX7_sees 40 = .ok (.aload_n 0, 1) := by decide +kernel
theorem dX7_sees_41 : decode cX7_sees 41 = .ok (.dup, 1) := by decide +kernel
theorem dX7_sees_42 : decode cX7_sees 42 = .ok (.getfield 143, 3) := by decide +kernel
theorem dX7_sees_45 : decode cX7_sees 45 = .ok (.iconst 1, 1) := by decide +kernel
theorem dX7_sees_46 : decode cX7_sees 46 = .ok (.iadd, 1) := by decide +kernel
theorem dX7_sees_47 : decode cX7_sees 47 = .ok (.putfield 143, 3) := by decide +kernel
theorem dX7_sees_50 : decode cX7_sees 50 = .ok (.aload_n 0, 1) := by decide +kernel
theorem dX7_sees_51 : decode cX7_sees 51 = .ok (.getfield 143, 3) := by decide +kernel
theorem dX7_sees_54 : decode cX7_sees 54 = .ok (.ireturn, 1) := by decide +kernel
theorem dX7_forget_0 : decode cX7_forget 0 = .ok (.aload_n 0, 1) := by decide +kernel
theorem dX7_forget_1 : decode cX7_forget 1 = .ok (.getfield 143, 3) := by decide +kernel
theorem dX7_forget_4 : decode cX7_forget 4 = .ok (.istore_n 1, 1) := by decide +kernel
theorem dX7_forget_5 : decode cX7_forget 5 = .ok (.aload_n 0, 1) := by decide +kernel
theorem dX7_forget_6 : decode cX7_forget 6 = .ok (.iconst 0, 1) := by decide +kernel
theorem dX7_forget_7 : decode cX7_forget 7 = .ok (.putfield 143, 3) := by decide +kernel
theorem dX7_forget_10 : decode cX7_forget 10 = .ok (.iload_n 1, 1) := by decide +kernel
theorem dX7_forget_11 : decode cX7_forget 11 = .ok (.ireturn, 1) := by decide +kernel
theorem dX7_statesBySeen_0 : decode cX7_statesBySeen 0 = .ok (.iconst 0, 1) := by decide +kernel
theorem dX7_statesBySeen_1 : decode cX7_statesBySeen 1 = .ok (.istore_n 2, 1) := by decide +kernel
theorem dX7_statesBySeen_2 : decode cX7_statesBySeen 2 = .ok (.iconst 0, 1) := by decide +kernel
theorem dX7_statesBySeen_3 : decode cX7_statesBySeen 3 = .ok (.istore_n 3, 1) := by decide +kernel
theorem dX7_statesBySeen_4 : decode cX7_statesBySeen 4 = .ok (.iload_n 3, 1) := by decide +kernel
theorem dX7_statesBySeen_5 : decode cX7_statesBySeen 5 = .ok (.aload_n 0, 1) := by decide +kernel
theorem dX7_statesBySeen_6 : decode cX7_statesBySeen 6 = .ok (.invokevirtual 82, 3) := by decide +kernel
theorem dX7_statesBySeen_9 : decode cX7_statesBySeen 9 = .ok (.if_icmp .ge 118, 3) := by decide +kernel
theorem dX7_statesBySeen_12 : decode cX7_statesBySeen 12 = .ok (.aload_n 0, 1) := by decide +kernel
theorem dX7_statesBySeen_13 : decode cX7_statesBySeen 13 = .ok (.getfield 92, 3) := by decide +kernel
theorem dX7_statesBySeen_16 : decode cX7_statesBySeen 16 = .ok (.iload_n 3, 1) := by decide +kernel
theorem dX7_statesBySeen_17 : decode cX7_statesBySeen 17 = .ok (.ishr, 1) := by decide +kernel
theorem dX7_statesBySeen_18 : decode cX7_statesBySeen 18 = .ok (.iconst 1, 1) := by decide +kernel
theorem dX7_statesBySeen_19 : decode cX7_statesBySeen 19 = .ok (.iand, 1) := by decide +kernel
theorem dX7_statesBySeen_20 : decode cX7_statesBySeen 20 = .ok (.iconst 1, 1) := by decide +kernel
theorem dX7_statesBySeen_21 : decode cX7_statesBySeen 21 = .ok (.if_icmp .ne 7, 3) := by decide +kernel
theorem dX7_statesBySeen_24 : decode cX7_statesBySeen 24 = .ok (.iload_n 3, 1) := by decide +kernel
theorem dX7_statesBySeen_25 : decode cX7_statesBySeen 25 = .ok (.goto 5, 3) := by decide +kernel
theorem dX7_statesBySeen_28 : decode cX7_statesBySeen 28 = .ok (.bipush (-9), 2) := by decide +kernel
theorem dX7_statesBySeen_30 : decode cX7_statesBySeen 30 = .ok (.istore 4, 2) := by decide +kernel
theorem dX7_statesBySeen_32 : decode cX7_statesBySeen 32 = .ok (.iconst 0, 1) := by decide +kernel
theorem dX7_statesBySeen_33 : decode cX7_statesBySeen 33 = .ok (.istore 5, 2) := by decide +kernel
theorem dX7_statesBySeen_35 : decode cX7_statesBySeen 35 = .ok (.iload 5, 2) := by decide +kernel
theorem dX7_statesBySeen_37 : decode cX7_statesBySeen 37 = .ok (.aload_n 0, 1) := by decide +kernel
theorem dX7_statesBySeen_38 : decode cX7_statesBySeen 38 = .ok (.getfield 143, 3) := by decide +kernel
theorem dX7_statesBySeen_41 : decode cX7_statesBySeen 41 = .ok (.if_icmp .ge 54, 3) := by decide +kernel
theorem dX7_statesBySeen_44 : decode cX7_statesBySeen 44 = .ok (.iload 4, 2) := by decide +kernel
theorem dX7_statesBySeen_46 : decode cX7_statesBySeen 46 = .ok (.bipush (-9), 2) := by decide +kernel
theorem dX7_statesBySeen_48 : decode cX7_statesBySeen 48 = .ok (.if_icmp .eq 47, 3) := by decide +kernel
theorem dX7_statesBySeen_51 : decode cX7_statesBySeen 51 = .ok (.aload_n 0, 1) := by decide +kernel
theorem dX7_statesBySeen_52 : decode cX7_statesBySeen 52 = .ok (.iload 4, 2) := by decide +kernel
theorem dX7_statesBySeen_54 : decode cX7_statesBySeen 54 = .ok (.aload_n 0, 1) := by decide +kernel
theorem dX7_statesBySeen_55 : decode cX7_statesBySeen 55 = .ok (.getfield 23, 3) := by decide +kernel
theorem dX7_statesBySeen_58 : decode cX7_statesBySeen 58 = .ok (.iload 5, 2) := by decide +kernel
theorem dX7_statesBySeen_60 : decode cX7_statesBySeen 60 = .ok (.iaload, 1) := by decide +kernel
theorem dX7_statesBySeen_61 : decode cX7_statesBySeen 61 = .ok (.invokevirtual 149, 3) := by decide +kernel
theorem dX7_statesBySeen_64 : decode cX7_statesBySeen 64 = .ok (.bipush (-9), 2) := by decide +kernel
theorem dX7_statesBySeen_66 : decode cX7_statesBySeen 66 = .ok (.if_icmp .ne 8, 3) := by decide +kernel
theorem dX7_statesBySeen_69 : decode cX7_statesBySeen 69 = .ok (.bipush (-9), 2) := by decide +kernel
theorem dX7_statesBySeen_71 : decode cX7_statesBySeen 71 = .ok (.goto 16, 3) := by decide +kernel
theorem dX7_statesBySeen_74 : decode cX7_statesBySeen 74 = .ok (.aload_n 0, 1) := by decide +kernel
theorem dX7_statesBySeen_75 : decode cX7_statesBySeen 75 = .ok (.iload 4, 2) := by decide +kernel
theorem dX7_statesBySeen_77 : decode cX7_statesBySeen 77 = .ok (.aload_n 0, 1) := by decide +kernel
theorem dX7_statesBySeen_78 : decode cX7_statesBySeen 78 = .ok (.getfield 23, 3) := by decide +kernel
theorem dX7_statesBySeen_81 : decode cX7_statesBySeen 81 = .ok (.iload 5, 2) := by decide +kernel
theorem dX7_statesBySeen_83 : decode cX7_statesBySeen 83 = .ok (.iaload, 1) := by decide +kernel
theorem dX7_statesBySeen_84 : decode cX7_statesBySeen 84 = .ok (.invokevirtual 89, 3) := by decide +kernel
theorem dX7_statesBySeen_87 : decode cX7_statesBySeen 87 = .ok (.istore 4, 2) := by decide +kernel
theorem dX7_statesBySeen_89 : decode cX7_statesBySeen 89 = .ok (.iinc 5 1, 3) := by decide +kernel
theorem dX7_statesBySeen_92 : decode cX7_statesBySeen 92 = .ok (.goto (-57), 3) := by decide +kernel
theorem dX7_statesBySeen_95 : decode cX7_statesBySeen 95 = .ok (.iload_n 2, 1) := by decide +kernel
theorem dX7_statesBySeen_96 : decode cX7_statesBySeen 96 = .ok (.iload 4, 2) := by decide +kernel
theorem dX7_statesBySeen_98 : decode cX7_statesBySeen 98 = .ok (.bipush (-9), 2) := by decide +kernel
theorem dX7_statesBySeen_100 : decode cX7_statesBySeen 100 = .ok (.if_icmp .ne 7, 3) := by decide +kernel
theorem dX7_statesBySeen_103 : decode cX7_statesBySeen 103 = .ok (.iconst 0, 1) := by decide +kernel
theorem dX7_statesBySeen_104 : decode cX7_statesBySeen 104 = .ok (.goto 15, 3) := by decide +kernel
theorem dX7_statesBySeen_107 : decode cX7_statesBySeen 107 = .ok (.iconst 1, 1) := by decide +kernel
theorem dX7_statesBySeen_108 : decode cX7_statesBySeen 108 = .ok (.iload_n 1, 1) := by decide +kernel
theorem dX7_statesBySeen_109 : decode cX7_statesBySeen 109 = .ok (.ifCond .eq 8, 3) := by decide +kernel
theorem dX7_statesBySeen_112 : decode cX7_statesBySeen 112 = .ok (.iload 4, 2) := by decide +kernel
theorem dX7_statesBySeen_114 : decode cX7_statesBySeen 114 = .ok (.goto 4, 3) := by decide +kernel
theorem dX7_statesBySeen_117 : decode cX7_statesBySeen 117 = .ok (.iload_n 3, 1) := by decide +kernel
theorem dX7_statesBySeen_118 : decode cX7_statesBySeen 118 = .ok (.ishl, 1) := by decide +kernel
theorem dX7_statesBySeen_119 : decode cX7_statesBySeen 119 = .ok (.ior, 1) := by decide +kernel
theorem dX7_statesBySeen_120 : decode cX7_statesBySeen 120 = .ok (.istore_n 2, 1) := by decide +kernel
theorem dX7_statesBySeen_121 : decode cX7_statesBySeen 121 = .ok (.iinc 3 1, 3) := by decide +kernel
theorem dX7_statesBySeen_124 : decode cX7_statesBySeen 124 = .ok (.goto (-120), 3) := by decide +kernel
theorem dX7_statesBySeen_127 : decode cX7_statesBySeen 127 = .ok (.iload_n 2, 1) := by decide +kernel
theorem dX7_statesBySeen_128 : decode cX7_statesBySeen 128 = .ok (.ireturn, 1) := by decide +kernel
theorem dX7_which_0 : decode cX7_which 0 = .ok (.iload_n 1, 1) := by decide +kernel
theorem dX7_which_1 : decode cX7_which 1 = .ok (.i2l, 1) := by decide +kernel
theorem dX7_which_2 : decode cX7_which 2 = .ok (.lconst 0, 1) := by decide +kernel
theorem dX7_which_3 : decode cX7_which 3 = .ok (.lconst 1, 1) := by decide +kernel
theorem dX7_which_4 : decode cX7_which 4 = .ok (.invokestatic 70, 3) := by decide +kernel
theorem dX7_which_7 : decode cX7_which 7 = .ok (.ifCond .ne 5, 3) := by decide +kernel
theorem dX7_which_10 : decode cX7_which 10 = .ok (.iconst (-1), 1) := by decide +kernel
theorem dX7_which_11 : decode cX7_which 11 = .ok (.ireturn, 1) := by decide +kernel
theorem dX7_which_12 : decode cX7_which 12 = .ok (.aload_n 0, 1) := by decide +kernel
theorem dX7_which_13 : decode cX7_which 13 = .ok (.invokevirtual 56, 3) := by decide +kernel
theorem dX7_which_16 : decode cX7_which 16 = .ok (.aload_n 0, 1) := by decide +kernel
theorem dX7_which_17 : decode cX7_which 17 = .ok (.iload_n 1, 1) := by decide +kernel
theorem dX7_which_18 : decode cX7_which 18 = .ok (.iconst 1, 1) := by decide +kernel
theorem dX7_which_19 : decode cX7_which 19 = .ok (.if_icmp .ne 7, 3) := by decide +kernel
theorem dX7_which_22 : decode cX7_which 22 = .ok (.iconst 1, 1) := by decide +kernel
theorem dX7_which_23 : decode cX7_which 23 = .ok (.goto 4, 3) := by decide +kernel
theorem dX7_which_26 : decode cX7_which 26 = .ok (.iconst 0, 1) := by decide +kernel
theorem dX7_which_27 : decode cX7_which 27 = .ok (.invokevirtual 187, 3) := by decide +kernel
theorem dX7_which_30 : decode cX7_which 30 = .ok (.ireturn, 1) := by decide +kernel
theorem dX7_ask_0 : decode cX7_ask 0 = .ok (.aload_n 0, 1) := by decide +kernel
theorem dX7_ask_1 : decode cX7_ask 1 = .ok (.invokevirtual 56, 3) := by decide +kernel
theorem dX7_ask_4 : decode cX7_ask 4 = .ok (.aload_n 0, 1) := by decide +kernel
theorem dX7_ask_5 : decode cX7_ask 5 = .ok (.iconst 1, 1) := by decide +kernel
theorem dX7_ask_6 : decode cX7_ask 6 = .ok (.invokevirtual 187, 3) := by decide +kernel
theorem dX7_ask_9 : decode cX7_ask 9 = .ok (.istore_n 1, 1) := by decide +kernel
theorem dX7_ask_10 : decode cX7_ask 10 = .ok (.iload_n 1, 1) := by decide +kernel
theorem dX7_ask_11 : decode cX7_ask 11 = .ok (.iload_n 1, 1) := by decide +kernel
theorem dX7_ask_12 : decode cX7_ask 12 = .ok (.iconst 1, 1) := by decide +kernel
theorem dX7_ask_13 : decode cX7_ask 13 = .ok (.isub, 1) := by decide +kernel
theorem dX7_ask_14 : decode cX7_ask 14 = .ok (.iand, 1) := by decide +kernel
theorem dX7_ask_15 : decode cX7_ask 15 = .ok (.ifCond .ne 6, 3) := by decide +kernel
theorem dX7_ask_18 : decode cX7_ask 18 = .ok (.bipush (-9), 2) := by decide +kernel
theorem dX7_ask_20 : decode cX7_ask 20 = .ok (.ireturn, 1) := by decide +kernel
theorem dX7_ask_21 : decode cX7_ask 21 = .ok (.bipush (-9), 2) := by decide +kernel
theorem dX7_ask_23 : decode cX7_ask 23 = .ok (.istore_n 2, 1) := by decide +kernel
theorem dX7_ask_24 : decode cX7_ask 24 = .ok (.bipush 8, 2) := by decide +kernel
theorem dX7_ask_26 : decode cX7_ask 26 = .ok (.istore_n 3, 1) := by decide +kernel
theorem dX7_ask_27 : decode cX7_ask 27 = .ok (.iconst 0, 1) := by decide +kernel
theorem dX7_ask_28 : decode cX7_ask 28 = .ok (.istore 4, 2) := by decide +kernel
theorem dX7_ask_30 : decode cX7_ask 30 = .ok (.iload 4, 2) := by decide +kernel
theorem dX7_ask_32 : decode cX7_ask 32 = .ok (.iconst 1, 1) := by decide +kernel
theorem dX7_ask_33 : decode cX7_ask 33 = .ok (.aload_n 0, 1) := by decide +kernel
theorem dX7_ask_34 : decode cX7_ask 34 = .ok (.getfield 7, 3) := by decide +kernel
theorem dX7_ask_37 : decode cX7_ask 37 = .ok (.iconst 3, 1) := by decide +kernel
theorem dX7_ask_38 : decode cX7_ask 38 = .ok (.iaload, 1) := by decide +kernel
theorem dX7_ask_39 : decode cX7_ask 39 = .ok (.ishl, 1) := by decide +kernel
theorem dX7_ask_40 : decode cX7_ask 40 = .ok (.if_icmp .ge 126, 3) := by decide +kernel
theorem dX7_ask_43 : decode cX7_ask 43 = .ok (.iconst 0, 1) := by decide +kernel
theorem dX7_ask_44 : decode cX7_ask 44 = .ok (.istore 5, 2) := by decide +kernel
theorem dX7_ask_46 : decode cX7_ask 46 = .ok (.iconst 0, 1) := by decide +kernel
theorem dX7_ask_47 : decode cX7_ask 47 = .ok (.istore 6, 2) := by decide +kernel
theorem dX7_ask_49 : decode cX7_ask 49 = .ok (.iload 6, 2) := by decide +kernel
theorem dX7_ask_51 : decode cX7_ask 51 = .ok (.aload_n 0, 1) := by decide +kernel
theorem dX7_ask_52 : decode cX7_ask 52 = .ok (.invokevirtual 78, 3) := by decide +kernel
theorem dX7_ask_55 : decode cX7_ask 55 = .ok (.if_icmp .ge 79, 3) := by decide +kernel
theorem dX7_ask_58 : decode cX7_ask 58 = .ok (.iconst 0, 1) := by decide +kernel
theorem dX7_ask_59 : decode cX7_ask 59 = .ok (.istore 7, 2) := by decide +kernel
theorem dX7_ask_61 : decode cX7_ask 61 = .ok (.iconst 0, 1) := by decide +kernel
theorem dX7_ask_62 : decode cX7_ask 62 = .ok (.istore 8, 2) := by decide +kernel
theorem dX7_ask_64 : decode cX7_ask 64 = .ok (.iload 8, 2) := by decide +kernel
theorem dX7_ask_66 : decode cX7_ask 66 = .ok (.aload_n 0, 1) := by decide +kernel
theorem dX7_ask_67 : decode cX7_ask 67 = .ok (.invokevirtual 82, 3) := by decide +kernel
theorem dX7_ask_70 : decode cX7_ask 70 = .ok (.if_icmp .ge 42, 3) := by decide +kernel
theorem dX7_ask_73 : decode cX7_ask 73 = .ok (.iload 7, 2) := by decide +kernel
theorem dX7_ask_75 : decode cX7_ask 75 = .ok (.iload_n 1, 1) := by decide +kernel
theorem dX7_ask_76 : decode cX7_ask 76 = .ok (.iload 8, 2) := by decide +kernel
theorem dX7_ask_78 : decode cX7_ask 78 = .ok (.ishr, 1) := by decide +kernel
theorem dX7_ask_79 : decode cX7_ask 79 = .ok (.iconst 1, 1) := by decide +kernel
theorem dX7_ask_80 : decode cX7_ask 80 = .ok (.iand, 1) := by decide +kernel
theorem dX7_ask_81 : decode cX7_ask 81 = .ok (.iconst 1, 1) := by decide +kernel
theorem dX7_ask_82 : decode cX7_ask 82 = .ok (.if_icmp .ne 20, 3) := by decide +kernel
theorem dX7_ask_85 : decode cX7_ask 85 = .ok (.aload_n 0, 1) := by decide +kernel
theorem dX7_ask_86 : decode cX7_ask 86 = .ok (.iload 8, 2) := by decide +kernel
theorem dX7_ask_88 : decode cX7_ask 88 = .ok (.iload 6, 2) := by decide +kernel
theorem dX7_ask_90 : decode cX7_ask 90 = .ok (.invokevirtual 149, 3) := by decide +kernel
theorem dX7_ask_93 : decode cX7_ask 93 = .ok (.iload 4, 2) := by decide +kernel
theorem dX7_ask_95 : decode cX7_ask 95 = .ok (.if_icmp .ne 7, 3) := by decide +kernel
theorem dX7_ask_98 : decode cX7_ask 98 = .ok (.iconst 1, 1) := by decide +kernel
theorem dX7_ask_99 : decode cX7_ask 99 = .ok (.goto 4, 3) := by decide +kernel
theorem dX7_ask_102 : decode cX7_ask 102 = .ok (.iconst 0, 1) := by decide +kernel
theorem dX7_ask_103 : decode cX7_ask 103 = .ok (.iadd, 1) := by decide +kernel
theorem dX7_ask_104 : decode cX7_ask 104 = .ok (.istore 7, 2) := by decide +kernel
theorem dX7_ask_106 : decode cX7_ask 106 = .ok (.iinc 8 1, 3) := by decide +kernel
theorem dX7_ask_109 : decode cX7_ask 109 = .ok (.goto (-45), 3) := by decide +kernel
theorem dX7_ask_112 : decode cX7_ask 112 = .ok (.iload 7, 2) := by decide +kernel
theorem dX7_ask_114 : decode cX7_ask 114 = .ok (.iload 5, 2) := by decide +kernel
theorem dX7_ask_116 : decode cX7_ask 116 = .ok (.if_icmp .le 8, 3) := by decide +kernel
theorem dX7_ask_119 : decode cX7_ask 119 = .ok (.iload 7, 2) := by decide +kernel
theorem dX7_ask_121 : decode cX7_ask 121 = .ok (.goto 5, 3) := by decide +kernel
theorem dX7_ask_124 : decode cX7_ask 124 = .ok (.iload 5, 2) := by decide +kernel
theorem dX7_ask_126 : decode cX7_ask 126 = .ok (.istore 5, 2) := by decide +kernel
theorem dX7_ask_128 : decode cX7_ask 128 = .ok (.iinc 6 1, 3) := by decide +kernel
theorem dX7_ask_131 : decode cX7_ask 131 = .ok (.goto (-82), 3) := by decide +kernel
theorem dX7_ask_134 : decode cX7_ask 134 = .ok (.iload 5, 2) := by decide +kernel
theorem dX7_ask_136 : decode cX7_ask 136 = .ok (.iload_n 3, 1) := by decide +kernel
theorem dX7_ask_137 : decode cX7_ask 137 = .ok (.if_icmp .ge 8, 3) := by decide +kernel
theorem dX7_ask_140 : decode cX7_ask 140 = .ok (.iload 4, 2) := by decide +kernel
theorem dX7_ask_142 : decode cX7_ask 142 = .ok (.goto 4, 3) := by decide +kernel
theorem dX7_ask_145 : decode cX7_ask 145 = .ok (.iload_n 2, 1) := by decide +kernel
theorem dX7_ask_146 : decode cX7_ask 146 = .ok (.istore_n 2, 1) := by decide +kernel
theorem dX7_ask_147 : decode cX7_ask 147 = .ok (.iload 5, 2) := by decide +kernel
theorem dX7_ask_149 : decode cX7_ask 149 = .ok (.iload_n 3, 1) := by decide +kernel
theorem dX7_ask_150 : decode cX7_ask 150 = .ok (.if_icmp .ge 8, 3) := by decide +kernel
theorem dX7_ask_153 : decode cX7_ask 153 = .ok (.iload 5, 2) := by decide +kernel
theorem dX7_ask_155 : decode cX7_ask 155 = .ok (.goto 4, 3) := by decide +kernel
theorem dX7_ask_158 : decode cX7_ask 158 = .ok (.iload_n 3, 1) := by decide +kernel
theorem dX7_ask_159 : decode cX7_ask 159 = .ok (.istore_n 3, 1) := by decide +kernel
theorem dX7_ask_160 : decode cX7_ask 160 = .ok (.iinc 4 1, 3) := by decide +kernel
theorem dX7_ask_163 : decode cX7_ask 163 = .ok (.goto (-133), 3) := by decide +kernel
theorem dX7_ask_166 : decode cX7_ask 166 = .ok (.iload_n 2, 1) := by decide +kernel
theorem dX7_ask_167 : decode cX7_ask 167 = .ok (.ireturn, 1) := by decide +kernel
theorem dX7_keep_0 : decode cX7_keep 0 = .ok (.iload_n 1, 1) := by decide +kernel
theorem dX7_keep_1 : decode cX7_keep 1 = .ok (.i2l, 1) := by decide +kernel
theorem dX7_keep_2 : decode cX7_keep 2 = .ok (.lconst 0, 1) := by decide +kernel
theorem dX7_keep_3 : decode cX7_keep 3 = .ok (.lconst 1, 1) := by decide +kernel
theorem dX7_keep_4 : decode cX7_keep 4 = .ok (.invokestatic 70, 3) := by decide +kernel
theorem dX7_keep_7 : decode cX7_keep 7 = .ok (.ifCond .ne 5, 3) := by decide +kernel
theorem dX7_keep_10 : decode cX7_keep 10 = .ok (.iconst (-1), 1) := by decide +kernel
theorem dX7_keep_11 : decode cX7_keep 11 = .ok (.ireturn, 1) := by decide +kernel
theorem dX7_keep_12 : decode cX7_keep 12 = .ok (.iconst 0, 1) := by decide +kernel
theorem dX7_keep_13 : decode cX7_keep 13 = .ok (.istore_n 2, 1) := by decide +kernel
theorem dX7_keep_14 : decode cX7_keep 14 = .ok (.iload_n 2, 1) := by decide +kernel
theorem dX7_keep_15 : decode cX7_keep 15 = .ok (.bipush 79, 2) := by decide +kernel
theorem dX7_keep_17 : decode cX7_keep 17 = .ok (.if_icmp .ge 26, 3) := by decide +kernel
theorem dX7_keep_20 : decode cX7_keep 20 = .ok (.aload_n 0, 1) := by decide +kernel
theorem dX7_keep_21 : decode cX7_keep 21 = .ok (.getfield 16, 3) := by decide +kernel
theorem dX7_keep_24 : decode cX7_keep 24 = .ok (.bipush 79, 2) := by decide +kernel
theorem dX7_keep_26 : decode cX7_keep 26 = .ok (.iload_n 1, 1) := by decide +kernel
theorem dX7_keep_27 : decode cX7_keep 27 = .ok (.imul, 1) := by decide +kernel
theorem dX7_keep_28 : decode cX7_keep 28 = .ok (.iload_n 2, 1) := by decide +kernel
theorem dX7_keep_29 : decode cX7_keep 29 = .ok (.iadd, 1) := by decide +kernel
theorem dX7_keep_30 : decode cX7_keep 30 = .ok (.aload_n 0, 1) := by decide +kernel
theorem dX7_keep_31 : decode cX7_keep 31 = .ok (.getfield 7, 3) := by decide +kernel
theorem dX7_keep_34 : decode cX7_keep 34 = .ok (.iload_n 2, 1) := by decide +kernel
theorem dX7_keep_35 : decode cX7_keep 35 = .ok (.iaload, 1) := by decide +kernel
theorem dX7_keep_36 : decode cX7_keep 36 = .ok (.iastore, 1) := by decide +kernel
theorem dX7_keep_37 : decode cX7_keep 37 = .ok (.iinc 2 1, 3) := by decide +kernel
theorem dX7_keep_40 : decode cX7_keep 40 = .ok (.goto (-26), 3) := by decide +kernel
theorem dX7_keep_43 : decode cX7_keep 43 = .ok (.aload_n 0, 1) := by decide +kernel
theorem dX7_keep_44 : decode cX7_keep 44 = .ok (.getfield 19, 3) := by decide +kernel
theorem dX7_keep_47 : decode cX7_keep 47 = .ok (.iload_n 1, 1) := by decide +kernel
theorem dX7_keep_48 : decode cX7_keep 48 = .ok (.iconst 1, 1) := by decide +kernel
theorem dX7_keep_49 : decode cX7_keep 49 = .ok (.bastore, 1) := by decide +kernel
theorem dX7_keep_50 : decode cX7_keep 50 = .ok (.aload_n 0, 1) := by decide +kernel
theorem dX7_keep_51 : decode cX7_keep 51 = .ok (.getfield 7, 3) := by decide +kernel
theorem dX7_keep_54 : decode cX7_keep 54 = .ok (.iconst 5, 1) := by decide +kernel
theorem dX7_keep_55 : decode cX7_keep 55 = .ok (.iaload, 1) := by decide +kernel
theorem dX7_keep_56 : decode cX7_keep 56 = .ok (.ireturn, 1) := by decide +kernel
theorem dX7_back_0 : decode cX7_back 0 = .ok (.iload_n 1, 1) := by decide +kernel
theorem dX7_back_1 : decode cX7_back 1 = .ok (.i2l, 1) := by decide +kernel
theorem dX7_back_2 : decode cX7_back 2 = .ok (.lconst 0, 1) := by decide +kernel
theorem dX7_back_3 : decode cX7_back 3 = .ok (.lconst 1, 1) := by decide +kernel
theorem dX7_back_4 : decode cX7_back 4 = .ok (.invokestatic 70, 3) := by decide +kernel
theorem dX7_back_7 : decode cX7_back 7 = .ok (.ifCond .ne 5, 3) := by decide +kernel
theorem dX7_back_10 : decode cX7_back 10 = .ok (.iconst (-1), 1) := by decide +kernel
theorem dX7_back_11 : decode cX7_back 11 = .ok (.ireturn, 1) := by decide +kernel
theorem dX7_back_12 : decode cX7_back 12 = .ok (.aload_n 0, 1) := by decide +kernel
theorem dX7_back_13 : decode cX7_back 13 = .ok (.getfield 19, 3) := by decide +kernel
theorem dX7_back_16 : decode cX7_back 16 = .ok (.iload_n 1, 1) := by decide +kernel
theorem dX7_back_17 : decode cX7_back 17 = .ok (.baload, 1) := by decide +kernel
theorem dX7_back_18 : decode cX7_back 18 = .ok (.ifCond .ne 6, 3) := by decide +kernel
theorem dX7_back_21 : decode cX7_back 21 = .ok (.bipush (-2), 2) := by decide +kernel
theorem dX7_back_23 : decode cX7_back 23 = .ok (.ireturn, 1) := by decide +kernel
theorem dX7_back_24 : decode cX7_back 24 = .ok (.iconst 0, 1) := by decide +kernel
theorem dX7_back_25 : decode cX7_back 25 = .ok (.istore_n 2, 1) := by decide +kernel
theorem dX7_back_26 : decode cX7_back 26 = .ok (.iload_n 2, 1) := by decide +kernel
theorem dX7_back_27 : decode cX7_back 27 = .ok (.bipush 79, 2) := by decide +kernel
theorem dX7_back_29 : decode cX7_back 29 = .ok (.if_icmp .ge 26, 3) := by decide +kernel
theorem dX7_back_32 : decode cX7_back 32 = .ok (.aload_n 0, 1) := by decide +kernel
theorem dX7_back_33 : decode cX7_back 33 = .ok (.getfield 7, 3) := by decide +kernel
theorem dX7_back_36 : decode cX7_back 36 = .ok (.iload_n 2, 1) := by decide +kernel
theorem dX7_back_37 : decode cX7_back 37 = .ok (.aload_n 0, 1) := by decide +kernel
theorem dX7_back_38 : decode cX7_back 38 = .ok (.getfield 16, 3) := by decide +kernel
theorem dX7_back_41 : decode cX7_back 41 = .ok (.bipush 79, 2) := by decide +kernel
theorem dX7_back_43 : decode cX7_back 43 = .ok (.iload_n 1, 1) := by decide +kernel
theorem dX7_back_44 : decode cX7_back 44 = .ok (.imul, 1) := by decide +kernel
theorem dX7_back_45 : decode cX7_back 45 = .ok (.iload_n 2, 1) := by decide +kernel
theorem dX7_back_46 : decode cX7_back 46 = .ok (.iadd, 1) := by decide +kernel
theorem dX7_back_47 : decode cX7_back 47 = .ok (.iaload, 1) := by decide +kernel
theorem dX7_back_48 : decode cX7_back 48 = .ok (.iastore, 1) := by decide +kernel
theorem dX7_back_49 : decode cX7_back 49 = .ok (.iinc 2 1, 3) := by decide +kernel
theorem dX7_back_52 : decode cX7_back 52 = .ok (.goto (-26), 3) := by decide +kernel
theorem dX7_back_55 : decode cX7_back 55 = .ok (.aload_n 0, 1) := by decide +kernel
theorem dX7_back_56 : decode cX7_back 56 = .ok (.iconst 0, 1) := by decide +kernel
theorem dX7_back_57 : decode cX7_back 57 = .ok (.putfield 63, 3) := by decide +kernel
theorem dX7_back_60 : decode cX7_back 60 = .ok (.aload_n 0, 1) := by decide +kernel
theorem dX7_back_61 : decode cX7_back 61 = .ok (.getfield 7, 3) := by decide +kernel
theorem dX7_back_64 : decode cX7_back 64 = .ok (.iconst 5, 1) := by decide +kernel
theorem dX7_back_65 : decode cX7_back 65 = .ok (.iaload, 1) := by decide +kernel
theorem dX7_back_66 : decode cX7_back 66 = .ok (.ireturn, 1) := by decide +kernel
theorem dX7_otherBits_0 : decode cX7_otherBits 0 = .ok (.iconst 0, 1) := by decide +kernel
theorem dX7_otherBits_1 : decode cX7_otherBits 1 = .ok (.istore_n 1, 1) := by decide +kernel
theorem dX7_otherBits_2 : decode cX7_otherBits 2 = .ok (.iconst 0, 1) := by decide +kernel
theorem dX7_otherBits_3 : decode cX7_otherBits 3 = .ok (.istore_n 2, 1) := by decide +kernel
theorem dX7_otherBits_4 : decode cX7_otherBits 4 = .ok (.iload_n 2, 1) := by decide +kernel
theorem dX7_otherBits_5 : decode cX7_otherBits 5 = .ok (.aload_n 0, 1) := by decide +kernel
theorem dX7_otherBits_6 : decode cX7_otherBits 6 = .ok (.getfield 7, 3) := by decide +kernel
theorem dX7_otherBits_9 : decode cX7_otherBits 9 = .ok (.iconst 5, 1) := by decide +kernel
theorem dX7_otherBits_10 : decode cX7_otherBits 10 = .ok (.iaload, 1) := by decide +kernel
theorem dX7_otherBits_11 : decode cX7_otherBits 11 = .ok (.if_icmp .ge 46, 3) := by decide +kernel
theorem dX7_otherBits_14 : decode cX7_otherBits 14 = .ok (.aload_n 0, 1) := by decide +kernel
theorem dX7_otherBits_15 : decode cX7_otherBits 15 = .ok (.getfield 7, 3) := by decide +kernel
theorem dX7_otherBits_18 : decode cX7_otherBits 18 = .ok (.bipush 7, 2) := by decide +kernel
theorem dX7_otherBits_20 : decode cX7_otherBits 20 = .ok (.iload_n 2, 1) := by decide +kernel
theorem dX7_otherBits_21 : decode cX7_otherBits 21 = .ok (.iadd, 1) := by decide +kernel
theorem dX7_otherBits_22 : decode cX7_otherBits 22 = .ok (.iaload, 1) := by decide +kernel
theorem dX7_otherBits_23 : decode cX7_otherBits 23 = .ok (.aload_n 0, 1) := by decide +kernel
theorem dX7_otherBits_24 : decode cX7_otherBits 24 = .ok (.getfield 7, 3) := by decide +kernel
theorem dX7_otherBits_27 : decode cX7_otherBits 27 = .ok (.bipush 31, 2) := by decide +kernel
theorem dX7_otherBits_29 : decode cX7_otherBits 29 = .ok (.iload_n 2, 1) := by decide +kernel
theorem dX7_otherBits_30 : decode cX7_otherBits 30 = .ok (.iadd, 1) := by decide +kernel
theorem dX7_otherBits_31 : decode cX7_otherBits 31 = .ok (.iaload, 1) := by decide +kernel
theorem dX7_otherBits_32 : decode cX7_otherBits 32 = .ok (.ixor, 1) := by decide +kernel
theorem dX7_otherBits_33 : decode cX7_otherBits 33 = .ok (.istore_n 3, 1) := by decide +kernel
theorem dX7_otherBits_34 : decode cX7_otherBits 34 = .ok (.iload_n 3, 1) := by decide +kernel
theorem dX7_otherBits_35 : decode cX7_otherBits 35 = .ok (.ifCond .le 16, 3) := by decide +kernel
theorem dX7_otherBits_38 : decode cX7_otherBits 38 = .ok (.iload_n 1, 1) := by decide +kernel
theorem dX7_otherBits_39 : decode cX7_otherBits 39 = .ok (.iload_n 3, 1) := by decide +kernel
theorem dX7_otherBits_40 : decode cX7_otherBits 40 = .ok (.iconst 1, 1) := by decide +kernel
theorem dX7_otherBits_41 : decode cX7_otherBits 41 = .ok (.iand, 1) := by decide +kernel
theorem dX7_otherBits_42 : decode cX7_otherBits 42 = .ok (.iadd, 1) := by decide +kernel
theorem dX7_otherBits_43 : decode cX7_otherBits 43 = .ok (.istore_n 1, 1) := by decide +kernel
theorem dX7_otherBits_44 : decode cX7_otherBits 44 = .ok (.iload_n 3, 1) := by decide +kernel
theorem dX7_otherBits_45 : decode cX7_otherBits 45 = .ok (.iconst 1, 1) := by decide +kernel
theorem dX7_otherBits_46 : decode cX7_otherBits 46 = .ok (.ishr, 1) := by decide +kernel
theorem dX7_otherBits_47 : decode cX7_otherBits 47 = .ok (.istore_n 3, 1) := by decide +kernel
theorem dX7_otherBits_48 : decode cX7_otherBits 48 = .ok (.goto (-14), 3) := by decide +kernel
theorem dX7_otherBits_51 : decode cX7_otherBits 51 = .ok (.iinc 2 1, 3) := by decide +kernel
theorem dX7_otherBits_54 : decode cX7_otherBits 54 = .ok (.goto (-50), 3) := by decide +kernel
theorem dX7_otherBits_57 : decode cX7_otherBits 57 = .ok (.iload_n 1, 1) := by decide +kernel
theorem dX7_otherBits_58 : decode cX7_otherBits 58 = .ok (.ireturn, 1) := by decide +kernel
theorem dX7_count_0 : decode cX7_count 0 = .ok (.iload_n 1, 1) := by decide +kernel
theorem dX7_count_1 : decode cX7_count 1 = .ok (.i2l, 1) := by decide +kernel
theorem dX7_count_2 : decode cX7_count 2 = .ok (.lconst 0, 1) := by decide +kernel
theorem dX7_count_3 : decode cX7_count 3 = .ok (.ldc2_w 191, 3) := by decide +kernel
theorem dX7_count_6 : decode cX7_count 6 = .ok (.invokestatic 70, 3) := by decide +kernel
theorem dX7_count_9 : decode cX7_count 9 = .ok (.ifCond .ne 5, 3) := by decide +kernel
theorem dX7_count_12 : decode cX7_count 12 = .ok (.iconst (-1), 1) := by decide +kernel
theorem dX7_count_13 : decode cX7_count 13 = .ok (.ireturn, 1) := by decide +kernel
theorem dX7_count_14 : decode cX7_count 14 = .ok (.aload_n 0, 1) := by decide +kernel
theorem dX7_count_15 : decode cX7_count 15 = .ok (.invokevirtual 56, 3) := by decide +kernel
theorem dX7_count_18 : decode cX7_count 18 = .ok (.iload_n 1, 1) := by decide +kernel
theorem dX7_count_19 : decode cX7_count 19 = .ok (.tableswitch 130 0 11 #[61, 66, 71, 78, 85, 90, 95, 103, 108, 115, 120, 125], 61) := by decide +kernel
theorem dX7_count_80 : decode cX7_count 80 = .ok (.aload_n 0, 1) := by decide +kernel
theorem dX7_count_81 : decode cX7_count 81 = .ok (.invokevirtual 82, 3) := by decide +kernel
theorem dX7_count_84 : decode cX7_count 84 = .ok (.ireturn, 1) := by decide +kernel
theorem dX7_count_85 : decode cX7_count 85 = .ok (.aload_n 0, 1) := by decide +kernel
theorem dX7_count_86 : decode cX7_count 86 = .ok (.invokevirtual 163, 3) := by decide +kernel
theorem dX7_count_89 : decode cX7_count 89 = .ok (.ireturn, 1) := by decide +kernel
theorem dX7_count_90 : decode cX7_count 90 = .ok (.aload_n 0, 1) := by decide +kernel
theorem dX7_count_91 : decode cX7_count 91 = .ok (.getfield 7, 3) := by decide +kernel
theorem dX7_count_94 : decode cX7_count 94 = .ok (.iconst 3, 1) := by decide +kernel
theorem dX7_count_95 : decode cX7_count 95 = .ok (.iaload, 1) := by decide +kernel
theorem dX7_count_96 : decode cX7_count 96 = .ok (.ireturn, 1) := by decide +kernel
theorem dX7_count_97 : decode cX7_count 97 = .ok (.aload_n 0, 1) := by decide +kernel
theorem dX7_count_98 : decode cX7_count 98 = .ok (.getfield 7, 3) := by decide +kernel
theorem dX7_count_101 : decode cX7_count 101 = .ok (.iconst 4, 1) := by decide +kernel
theorem dX7_count_102 : decode cX7_count 102 = .ok (.iaload, 1) := by decide +kernel
theorem dX7_count_103 : decode cX7_count 103 = .ok (.ireturn, 1) := by decide +kernel
theorem dX7_count_104 : decode cX7_count 104 = .ok (.aload_n 0, 1) := by decide +kernel
theorem dX7_count_105 : decode cX7_count 105 = .ok (.getfield 92, 3) := by decide +kernel
theorem dX7_count_108 : decode cX7_count 108 = .ok (.ireturn, 1) := by decide +kernel
theorem dX7_count_109 : decode cX7_count 109 = .ok (.aload_n 0, 1) := by decide +kernel
theorem dX7_count_110 : decode cX7_count 110 = .ok (.getfield 59, 3) := by decide +kernel
theorem dX7_count_113 : decode cX7_count 113 = .ok (.ireturn, 1) := by decide +kernel
theorem dX7_count_114 : decode cX7_count 114 = .ok (.aload_n 0, 1) := by decide +kernel
theorem dX7_count_115 : decode cX7_count 115 = .ok (.getfield 7, 3) := by decide +kernel
theorem dX7_count_118 : decode cX7_count 118 = .ok (.bipush 6, 2) := by decide +kernel
theorem dX7_count_120 : decode cX7_count 120 = .ok (.iaload, 1) := by decide +kernel
theorem dX7_count_121 : decode cX7_count 121 = .ok (.ireturn, 1) := by decide +kernel
theorem dX7_count_122 : decode cX7_count 122 = .ok (.aload_n 0, 1) := by decide +kernel
theorem dX7_count_123 : decode cX7_count 123 = .ok (.invokevirtual 176, 3) := by decide +kernel
theorem dX7_count_126 : decode cX7_count 126 = .ok (.ireturn, 1) := by decide +kernel
theorem dX7_count_127 : decode cX7_count 127 = .ok (.aload_n 0, 1) := by decide +kernel
theorem dX7_count_128 : decode cX7_count 128 = .ok (.getfield 7, 3) := by decide +kernel
theorem dX7_count_131 : decode cX7_count 131 = .ok (.iconst 5, 1) := by decide +kernel
theorem dX7_count_132 : decode cX7_count 132 = .ok (.iaload, 1) := by decide +kernel
theorem dX7_count_133 : decode cX7_count 133 = .ok (.ireturn, 1) := by decide +kernel
theorem dX7_count_134 : decode cX7_count 134 = .ok (.aload_n 0, 1) := by decide +kernel
theorem dX7_count_135 : decode cX7_count 135 = .ok (.invokevirtual 193, 3) := by decide +kernel
theorem dX7_count_138 : decode cX7_count 138 = .ok (.ireturn, 1) := by decide +kernel
theorem dX7_count_139 : decode cX7_count 139 = .ok (.aload_n 0, 1) := by decide +kernel
theorem dX7_count_140 : decode cX7_count 140 = .ok (.getfield 143, 3) := by decide +kernel
theorem dX7_count_143 : decode cX7_count 143 = .ok (.ireturn, 1) := by decide +kernel
theorem dX7_count_144 : decode cX7_count 144 = .ok (.aload_n 0, 1) := by decide +kernel
theorem dX7_count_145 : decode cX7_count 145 = .ok (.getfield 103, 3) := by decide +kernel
theorem dX7_count_148 : decode cX7_count 148 = .ok (.ireturn, 1) := by decide +kernel
theorem dX7_count_149 : decode cX7_count 149 = .ok (.aload_n 0, 1) := by decide +kernel
theorem dX7_count_150 : decode cX7_count 150 = .ok (.getfield 63, 3) := by decide +kernel
theorem dX7_count_153 : decode cX7_count 153 = .ok (.ireturn, 1) := by decide +kernel
