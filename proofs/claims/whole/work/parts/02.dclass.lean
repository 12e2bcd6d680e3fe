theorem dX0_init_0 : decode cX0_init 0 = .ok (.aload_n 0, 1) := by decide +kernel
theorem dX0_init_1 : decode cX0_init 1 = .ok (.invokespecial 3, 3) := by decide +kernel
theorem dX0_init_4 : decode cX0_init 4 = .ok (.aload_n 0, 1) := by decide +kernel
theorem dX0_init_5 : decode cX0_init 5 = .ok (.bipush 112, 2) := by decide +kernel
theorem dX0_init_7 : decode cX0_init 7 = .ok (.newarray .int, 2) := by decide +kernel
theorem dX0_init_9 : decode cX0_init 9 = .ok (.putfield 9, 3) := by decide +kernel
theorem dX0_init_12 : decode cX0_init 12 = .ok (.aload_n 0, 1) := by decide +kernel
theorem dX0_init_13 : decode cX0_init 13 = .ok (.bipush 112, 2) := by decide +kernel
theorem dX0_init_15 : decode cX0_init 15 = .ok (.newarray .int, 2) := by decide +kernel
theorem dX0_init_17 : decode cX0_init 17 = .ok (.putfield 15, 3) := by decide +kernel
theorem dX0_init_20 : decode cX0_init 20 = .ok (.aload_n 0, 1) := by decide +kernel
theorem dX0_init_21 : decode cX0_init 21 = .ok (.bipush 7, 2) := by decide +kernel
theorem dX0_init_23 : decode cX0_init 23 = .ok (.newarray .int, 2) := by decide +kernel
theorem dX0_init_25 : decode cX0_init 25 = .ok (.putfield 18, 3) := by decide +kernel
theorem dX0_init_28 : decode cX0_init 28 = .ok (.aload_n 0, 1) := by decide +kernel
theorem dX0_init_29 : decode cX0_init 29 = .ok (.bipush 7, 2) := by decide +kernel
theorem dX0_init_31 : decode cX0_init 31 = .ok (.newarray .int, 2) := by decide +kernel
theorem dX0_init_33 : decode cX0_init 33 = .ok (.putfield 21, 3) := by decide +kernel
theorem dX0_init_36 : decode cX0_init 36 = .ok (.return_, 1) := by decide +kernel
theorem dX0_build_0 : decode cX0_build 0 = .ok (.aload_n 0, 1) := by decide +kernel
theorem dX0_build_1 : decode cX0_build 1 = .ok (.aload_n 1, 1) := by decide +kernel
theorem dX0_build_2 : decode cX0_build 2 = .ok (.invokevirtual 24, 3) := by decide +kernel
theorem dX0_build_5 : decode cX0_build 5 = .ok (.bipush 7, 2) := by decide +kernel
theorem dX0_build_7 : decode cX0_build 7 = .ok (.invokestatic 30, 3) := by decide +kernel
theorem dX0_build_10 : decode cX0_build 10 = .ok (.putfield 36, 3) := by decide +kernel
theorem dX0_build_13 : decode cX0_build 13 = .ok (.aload_n 0, 1) := by decide +kernel
theorem dX0_build_14 : decode cX0_build 14 = .ok (.aload_n 1, 1) := by decide +kernel
theorem dX0_build_15 : decode cX0_build 15 = .ok (.invokevirtual 40, 3) := by decide +kernel
theorem dX0_build_18 : decode cX0_build 18 = .ok (.aload_n 0, 1) := by decide +kernel
theorem dX0_build_19 : decode cX0_build 19 = .ok (.aload_n 1, 1) := by decide +kernel
theorem dX0_build_20 : decode cX0_build 20 = .ok (.invokevirtual 44, 3) := by decide +kernel
theorem dX0_build_23 : decode cX0_build 23 = .ok (.invokevirtual 47, 3) := by decide +kernel
theorem dX0_build_26 : decode cX0_build 26 = .ok (.aload_n 0, 1) := by decide +kernel
theorem dX0_build_27 : decode cX0_build 27 = .ok (.aload_n 1, 1) := by decide +kernel
theorem dX0_build_28 : decode cX0_build 28 = .ok (.invokevirtual 44, 3) := by decide +kernel
theorem dX0_build_31 : decode cX0_build 31 = .ok (.invokevirtual 51, 3) := by decide +kernel
theorem dX0_build_34 : decode cX0_build 34 = .ok (.aload_n 0, 1) := by decide +kernel
theorem dX0_build_35 : decode cX0_build 35 = .ok (.aload_n 0, 1) := by decide +kernel
theorem dX0_build_36 : decode cX0_build 36 = .ok (.invokevirtual 54, 3) := by decide +kernel
theorem dX0_build_39 : decode cX0_build 39 = .ok (.putfield 57, 3) := by decide +kernel
theorem dX0_build_42 : decode cX0_build 42 = .ok (.aload_n 0, 1) := by decide +kernel
theorem dX0_build_43 : decode cX0_build 43 = .ok (.aload_n 0, 1) := by decide +kernel
theorem dX0_build_44 : decode cX0_build 44 = .ok (.invokevirtual 60, 3) := by decide +kernel
theorem dX0_build_47 : decode cX0_build 47 = .ok (.putfield 63, 3) := by decide +kernel
theorem dX0_build_50 : decode cX0_build 50 = .ok (.return_, 1) := by decide +kernel
theorem dX0_endOf_0 : decode cX0_endOf 0 = .ok (.iload_n 1, 1) := by decide +kernel
theorem dX0_endOf_1 : decode cX0_endOf 1 = .ok (.ifCond .lt 19, 3) := by decide +kernel
theorem dX0_endOf_4 : decode cX0_endOf 4 = .ok (.iload_n 1, 1) := by decide +kernel
theorem dX0_endOf_5 : decode cX0_endOf 5 = .ok (.bipush 7, 2) := by decide +kernel
theorem dX0_endOf_7 : decode cX0_endOf 7 = .ok (.if_icmp .ge 13, 3) := by decide +kernel
theorem dX0_endOf_10 : decode cX0_endOf 10 = .ok (.iload_n 2, 1) := by decide +kernel
theorem dX0_endOf_11 : decode cX0_endOf 11 = .ok (.ifCond .lt 9, 3) := by decide +kernel
theorem dX0_endOf_14 : decode cX0_endOf 14 = .ok (.iload_n 2, 1) := by decide +kernel
theorem dX0_endOf_15 : decode cX0_endOf 15 = .ok (.bipush 16, 2) := by decide +kernel
theorem dX0_endOf_17 : decode cX0_endOf 17 = .ok (.if_icmp .lt 6, 3) := by decide +kernel
theorem dX0_endOf_20 : decode cX0_endOf 20 = .ok (.bipush (-9), 2) := by decide +kernel
theorem dX0_endOf_22 : decode cX0_endOf 22 = .ok (.ireturn, 1) := by decide +kernel
theorem dX0_endOf_23 : decode cX0_endOf 23 = .ok (.aload_n 0, 1) := by decide +kernel
theorem dX0_endOf_24 : decode cX0_endOf 24 = .ok (.getfield 9, 3) := by decide +kernel
theorem dX0_endOf_27 : decode cX0_endOf 27 = .ok (.iload_n 1, 1) := by decide +kernel
theorem dX0_endOf_28 : decode cX0_endOf 28 = .ok (.bipush 16, 2) := by decide +kernel
theorem dX0_endOf_30 : decode cX0_endOf 30 = .ok (.imul, 1) := by decide +kernel
theorem dX0_endOf_31 : decode cX0_endOf 31 = .ok (.iload_n 2, 1) := by decide +kernel
theorem dX0_endOf_32 : decode cX0_endOf 32 = .ok (.iadd, 1) := by decide +kernel
theorem dX0_endOf_33 : decode cX0_endOf 33 = .ok (.iaload, 1) := by decide +kernel
theorem dX0_endOf_34 : decode cX0_endOf 34 = .ok (.ireturn, 1) := by decide +kernel
theorem dX0_tagOf_0 : decode cX0_tagOf 0 = .ok (.iload_n 1, 1) := by decide +kernel
theorem dX0_tagOf_1 : decode cX0_tagOf 1 = .ok (.ifCond .lt 19, 3) := by decide +kernel
theorem dX0_tagOf_4 : decode cX0_tagOf 4 = .ok (.iload_n 1, 1) := by decide +kernel
theorem dX0_tagOf_5 : decode cX0_tagOf 5 = .ok (.bipush 7, 2) := by decide +kernel
theorem dX0_tagOf_7 : decode cX0_tagOf 7 = .ok (.if_icmp .ge 13, 3) := by decide +kernel
theorem dX0_tagOf_10 : decode cX0_tagOf 10 = .ok (.iload_n 2, 1) := by decide +kernel
theorem dX0_tagOf_11 : decode cX0_tagOf 11 = .ok (.ifCond .lt 9, 3) := by decide +kernel
theorem dX0_tagOf_14 : decode cX0_tagOf 14 = .ok (.iload_n 2, 1) := by decide +kernel
theorem dX0_tagOf_15 : decode cX0_tagOf 15 = .ok (.bipush 16, 2) := by decide +kernel
theorem dX0_tagOf_17 : decode cX0_tagOf 17 = .ok (.if_icmp .lt 6, 3) := by decide +kernel
theorem dX0_tagOf_20 : decode cX0_tagOf 20 = .ok (.bipush (-9), 2) := by decide +kernel
theorem dX0_tagOf_22 : decode cX0_tagOf 22 = .ok (.ireturn, 1) := by decide +kernel
theorem dX0_tagOf_23 : decode cX0_tagOf 23 = .ok (.aload_n 0, 1) := by decide +kernel
theorem dX0_tagOf_24 : decode cX0_tagOf 24 = .ok (.getfield 15, 3) := by decide +kernel
theorem dX0_tagOf_27 : decode cX0_tagOf 27 = .ok (.iload_n 1, 1) := by decide +kernel
theorem dX0_tagOf_28 : decode cX0_tagOf 28 = .ok (.bipush 16, 2) := by decide +kernel
theorem dX0_tagOf_30 : decode cX0_tagOf 30 = .ok (.imul, 1) := by decide +kernel
theorem dX0_tagOf_31 : decode cX0_tagOf 31 = .ok (.iload_n 2, 1) := by decide +kernel
theorem dX0_tagOf_32 : decode cX0_tagOf 32 = .ok (.iadd, 1) := by decide +kernel
theorem dX0_tagOf_33 : decode cX0_tagOf 33 = .ok (.iaload, 1) := by decide +kernel
theorem dX0_tagOf_34 : decode cX0_tagOf 34 = .ok (.ireturn, 1) := by decide +kernel
theorem dX0_isGood_0 : decode cX0_isGood 0 = .ok (.aload_n 0, 1) := by decide +kernel
theorem dX0_isGood_1 : decode cX0_isGood 1 = .ok (.getfield 66, 3) := by decide +kernel
theorem dX0_isGood_4 : decode cX0_isGood 4 = .ok (.iload_n 1, 1) := by decide +kernel
theorem dX0_isGood_5 : decode cX0_isGood 5 = .ok (.invokestatic 69, 3) := by decide +kernel
theorem dX0_isGood_8 : decode cX0_isGood 8 = .ok (.ireturn, 1) := by decide +kernel
theorem dX0_arcsFrom_0 : decode cX0_arcsFrom 0 = .ok (.iconst 0, 1) := by decide +kernel
theorem dX0_arcsFrom_1 : decode cX0_arcsFrom 1 = .ok (.istore_n 2, 1) := by decide +kernel
theorem dX0_arcsFrom_2 : decode cX0_arcsFrom 2 = .ok (.iconst 0, 1) := by decide +kernel
theorem dX0_arcsFrom_3 : decode cX0_arcsFrom 3 = .ok (.istore_n 3, 1) := by decide +kernel
theorem dX0_arcsFrom_4 : decode cX0_arcsFrom 4 = .ok (.iload_n 3, 1) := by decide +kernel
theorem dX0_arcsFrom_5 : decode cX0_arcsFrom 5 = .ok (.bipush 16, 2) := by decide +kernel
theorem dX0_arcsFrom_7 : decode cX0_arcsFrom 7 = .ok (.if_icmp .ge 23, 3) := by decide +kernel
theorem dX0_arcsFrom_10 : decode cX0_arcsFrom 10 = .ok (.aload_n 0, 1) := by decide +kernel
theorem dX0_arcsFrom_11 : decode cX0_arcsFrom 11 = .ok (.iload_n 1, 1) := by decide +kernel
theorem dX0_arcsFrom_12 : decode cX0_arcsFrom 12 = .ok (.iload_n 3, 1) := by decide +kernel
theorem dX0_arcsFrom_13 : decode cX0_arcsFrom 13 = .ok (.invokevirtual 73, 3) := by decide +kernel
theorem dX0_arcsFrom_16 : decode cX0_arcsFrom 16 = .ok (.bipush (-9), 2) := by decide +kernel
theorem dX0_arcsFrom_18 : decode cX0_arcsFrom 18 = .ok (.if_icmp .eq 6, 3) := by decide +kernel
theorem dX0_arcsFrom_21 : decode cX0_arcsFrom 21 = .ok (.iinc 2 1, 3) := by decide +kernel
theorem dX0_arcsFrom_24 : decode cX0_arcsFrom 24 = .ok (.iinc 3 1, 3) := by decide +kernel
theorem dX0_arcsFrom_27 : decode cX0_arcsFrom 27 = .ok (.goto (-23), 3) := by decide +kernel
theorem dX0_arcsFrom_30 : decode cX0_arcsFrom 30 = .ok (.iload_n 2, 1) := by decide +kernel
theorem dX0_arcsFrom_31 : decode cX0_arcsFrom 31 = .ok (.ireturn, 1) := by decide +kernel
theorem dX0_wordWith_0 : decode cX0_wordWith 0 = .ok (.iconst 0, 1) := by decide +kernel
theorem dX0_wordWith_1 : decode cX0_wordWith 1 = .ok (.istore_n 3, 1) := by decide +kernel
theorem dX0_wordWith_2 : decode cX0_wordWith 2 = .ok (.iload_n 3, 1) := by decide +kernel
theorem dX0_wordWith_3 : decode cX0_wordWith 3 = .ok (.bipush 16, 2) := by decide +kernel
theorem dX0_wordWith_5 : decode cX0_wordWith 5 = .ok (.if_icmp .ge 21, 3) := by decide +kernel
theorem dX0_wordWith_8 : decode cX0_wordWith 8 = .ok (.aload_n 0, 1) := by decide +kernel
theorem dX0_wordWith_9 : decode cX0_wordWith 9 = .ok (.iload_n 1, 1) := by decide +kernel
theorem dX0_wordWith_10 : decode cX0_wordWith 10 = .ok (.iload_n 3, 1) := by decide +kernel
theorem dX0_wordWith_11 : decode cX0_wordWith 11 = .ok (.invokevirtual 76, 3) := by decide +kernel
theorem dX0_wordWith_14 : decode cX0_wordWith 14 = .ok (.iload_n 2, 1) := by decide +kernel
theorem dX0_wordWith_15 : decode cX0_wordWith 15 = .ok (.if_icmp .ne 5, 3) := by decide +kernel
theorem dX0_wordWith_18 : decode cX0_wordWith 18 = .ok (.iload_n 3, 1) := by decide +kernel
theorem dX0_wordWith_19 : decode cX0_wordWith 19 = .ok (.ireturn, 1) := by decide +kernel
theorem dX0_wordWith_20 : decode cX0_wordWith 20 = .ok (.iinc 3 1, 3) := by decide +kernel
theorem dX0_wordWith_23 : decode cX0_wordWith 23 = .ok (.goto (-21), 3) := by decide +kernel
theorem dX0_wordWith_26 : decode cX0_wordWith 26 = .ok (.bipush (-9), 2) := by decide +kernel
theorem dX0_wordWith_28 : decode cX0_wordWith 28 = .ok (.ireturn, 1) := by decide +kernel
theorem dX0_follow_0 : decode cX0_follow 0 = .ok (.iload_n 3, 1) := by decide +kernel
theorem dX0_follow_1 : decode cX0_follow 1 = .ok (.ifCond .lt 12, 3) := by decide +kernel
theorem dX0_follow_4 : decode cX0_follow 4 = .ok (.iload_n 3, 1) := by decide +kernel
theorem dX0_follow_5 : decode cX0_follow 5 = .ok (.iload 4, 2) := by decide +kernel
theorem dX0_follow_7 : decode cX0_follow 7 = .ok (.iadd, 1) := by decide +kernel
theorem dX0_follow_8 : decode cX0_follow 8 = .ok (.aload_n 2, 1) := by decide +kernel
theorem dX0_follow_9 : decode cX0_follow 9 = .ok (.arraylength, 1) := by decide +kernel
theorem dX0_follow_10 : decode cX0_follow 10 = .ok (.if_icmp .le 6, 3) := by decide +kernel
theorem dX0_follow_13 : decode cX0_follow 13 = .ok (.bipush (-9), 2) := by decide +kernel
theorem dX0_follow_15 : decode cX0_follow 15 = .ok (.ireturn, 1) := by decide +kernel
theorem dX0_follow_16 : decode cX0_follow 16 = .ok (.iload_n 1, 1) := by decide +kernel
theorem dX0_follow_17 : decode cX0_follow 17 = .ok (.istore 5, 2) := by decide +kernel
theorem dX0_follow_19 : decode cX0_follow 19 = .ok (.iload_n 3, 1) := by decide +kernel
theorem dX0_follow_20 : decode cX0_follow 20 = .ok (.istore 6, 2) := by decide +kernel
theorem dX0_follow_22 : decode cX0_follow 22 = .ok (.iload 6, 2) := by decide +kernel
theorem dX0_follow_24 : decode cX0_follow 24 = .ok (.iload_n 3, 1) := by decide +kernel
theorem dX0_follow_25 : decode cX0_follow 25 = .ok (.iload 4, 2) := by decide +kernel
theorem dX0_follow_27 : decode cX0_follow 27 = .ok (.iadd, 1) := by decide +kernel
theorem dX0_follow_28 : decode cX0_follow 28 = .ok (.if_icmp .ge 39, 3) := by decide +kernel
theorem dX0_follow_31 : decode cX0_follow 31 = .ok (.aload_n 0, 1) := by decide +kernel
theorem dX0_follow_32 : decode cX0_follow 32 = .ok (.iload 5, 2) := by decide +kernel
theorem dX0_follow_34 : decode cX0_follow 34 = .ok (.aload_n 2, 1) := by decide +kernel
theorem dX0_follow_35 : decode cX0_follow 35 = .ok (.iload 6, 2) := by decide +kernel
theorem dX0_follow_37 : decode cX0_follow 37 = .ok (.iaload, 1) := by decide +kernel
theorem dX0_follow_38 : decode cX0_follow 38 = .ok (.invokevirtual 76, 3) := by decide +kernel
theorem dX0_follow_41 : decode cX0_follow 41 = .ok (.bipush (-9), 2) := by decide +kernel
theorem dX0_follow_43 : decode cX0_follow 43 = .ok (.if_icmp .ne 6, 3) := by decide +kernel
theorem dX0_follow_46 : decode cX0_follow 46 = .ok (.bipush (-9), 2) := by decide +kernel
theorem dX0_follow_48 : decode cX0_follow 48 = .ok (.ireturn, 1) := by decide +kernel
theorem dX0_follow_49 : decode cX0_follow 49 = .ok (.aload_n 0, 1) := by decide +kernel
theorem dX0_follow_50 : decode cX0_follow 50 = .ok (.iload 5, 2) := by decide +kernel
theorem dX0_follow_52 : decode cX0_follow 52 = .ok (.aload_n 2, 1) := by decide +kernel
theorem dX0_follow_53 : decode cX0_follow 53 = .ok (.iload 6, 2) := by decide +kernel
theorem dX0_follow_55 : decode cX0_follow 55 = .ok (.iaload, 1) := by decide +kernel
theorem dX0_follow_56 : decode cX0_follow 56 = .ok (.invokevirtual 73, 3) := by decide +kernel
theorem dX0_follow_59 : decode cX0_follow 59 = .ok (.istore 5, 2) := by decide +kernel
theorem dX0_follow_61 : decode cX0_follow 61 = .ok (.iinc 6 1, 3) := by decide +kernel
theorem dX0_follow_64 : decode cX0_follow 64 = .ok (.goto (-42), 3) := by decide +kernel
theorem dX0_follow_67 : decode cX0_follow 67 = .ok (.iload 5, 2) := by decide +kernel
theorem dX0_follow_69 : decode cX0_follow 69 = .ok (.ireturn, 1) := by decide +kernel
theorem dX0_mostAlike_0 : decode cX0_mostAlike 0 = .ok (.iconst 0, 1) := by decide +kernel
theorem dX0_mostAlike_1 : decode cX0_mostAlike 1 = .ok (.istore_n 3, 1) := by decide +kernel
theorem dX0_mostAlike_2 : decode cX0_mostAlike 2 = .ok (.iconst 0, 1) := by decide +kernel
theorem dX0_mostAlike_3 : decode cX0_mostAlike 3 = .ok (.istore 4, 2) := by decide +kernel
theorem dX0_mostAlike_5 : decode cX0_mostAlike 5 = .ok (.iload 4, 2) := by decide +kernel
theorem dX0_mostAlike_7 : decode cX0_mostAlike 7 = .ok (.aload_n 0, 1) := by decide +kernel
theorem dX0_mostAlike_8 : decode cX0_mostAlike 8 = .ok (.getfield 36, 3) := by decide +kernel
theorem dX0_mostAlike_11 : decode cX0_mostAlike 11 = .ok (.if_icmp .ge 36, 3) := by decide +kernel
theorem dX0_mostAlike_14 : decode cX0_mostAlike 14 = .ok (.iload_n 1, 1) := by decide +kernel
theorem dX0_mostAlike_15 : decode cX0_mostAlike 15 = .ok (.iload 4, 2) := by decide +kernel
theorem dX0_mostAlike_17 : decode cX0_mostAlike 17 = .ok (.invokestatic 69, 3) := by decide +kernel
theorem dX0_mostAlike_20 : decode cX0_mostAlike 20 = .ok (.ifCond .eq 21, 3) := by decide +kernel
theorem dX0_mostAlike_23 : decode cX0_mostAlike 23 = .ok (.iload_n 3, 1) := by decide +kernel
theorem dX0_mostAlike_24 : decode cX0_mostAlike 24 = .ok (.aload_n 0, 1) := by decide +kernel
theorem dX0_mostAlike_25 : decode cX0_mostAlike 25 = .ok (.iload_n 1, 1) := by decide +kernel
theorem dX0_mostAlike_26 : decode cX0_mostAlike 26 = .ok (.iload_n 2, 1) := by decide +kernel
theorem dX0_mostAlike_27 : decode cX0_mostAlike 27 = .ok (.aload_n 0, 1) := by decide +kernel
theorem dX0_mostAlike_28 : decode cX0_mostAlike 28 = .ok (.iload 4, 2) := by decide +kernel
theorem dX0_mostAlike_30 : decode cX0_mostAlike 30 = .ok (.iload_n 2, 1) := by decide +kernel
theorem dX0_mostAlike_31 : decode cX0_mostAlike 31 = .ok (.invokevirtual 79, 3) := by decide +kernel
theorem dX0_mostAlike_34 : decode cX0_mostAlike 34 = .ok (.invokevirtual 82, 3) := by decide +kernel
theorem dX0_mostAlike_37 : decode cX0_mostAlike 37 = .ok (.invokestatic 86, 3) := by decide +kernel
theorem dX0_mostAlike_40 : decode cX0_mostAlike 40 = .ok (.istore_n 3, 1) := by decide +kernel
theorem dX0_mostAlike_41 : decode cX0_mostAlike 41 = .ok (.iinc 4 1, 3) := by decide +kernel
theorem dX0_mostAlike_44 : decode cX0_mostAlike 44 = .ok (.goto (-39), 3) := by decide +kernel
theorem dX0_mostAlike_47 : decode cX0_mostAlike 47 = .ok (.iload_n 3, 1) := by decide +kernel
theorem dX0_mostAlike_48 : decode cX0_mostAlike 48 = .ok (.ireturn, 1) := by decide +kernel
theorem dX0_withWord_0 : decode cX0_withWord 0 = .ok (.iconst 0, 1) := by decide +kernel
theorem dX0_withWord_1 : decode cX0_withWord 1 = .ok (.istore 4, 2) := by decide +kernel
theorem dX0_withWord_3 : decode cX0_withWord 3 = .ok (.iconst 0, 1) := by decide +kernel
theorem dX0_withWord_4 : decode cX0_withWord 4 = .ok (.istore 5, 2) := by decide +kernel
theorem dX0_withWord_6 : decode cX0_withWord 6 = .ok (.iload 5, 2) := by decide +kernel
theorem dX0_withWord_8 : decode cX0_withWord 8 = .ok (.aload_n 0, 1) := by decide +kernel
theorem dX0_withWord_9 : decode cX0_withWord 9 = .ok (.getfield 36, 3) := by decide +kernel
theorem dX0_withWord_12 : decode cX0_withWord 12 = .ok (.if_icmp .ge 32, 3) := by decide +kernel
theorem dX0_withWord_15 : decode cX0_withWord 15 = .ok (.iload_n 1, 1) := by decide +kernel
theorem dX0_withWord_16 : decode cX0_withWord 16 = .ok (.iload 5, 2) := by decide +kernel
theorem dX0_withWord_18 : decode cX0_withWord 18 = .ok (.invokestatic 69, 3) := by decide +kernel
theorem dX0_withWord_21 : decode cX0_withWord 21 = .ok (.ifCond .eq 17, 3) := by decide +kernel
theorem dX0_withWord_24 : decode cX0_withWord 24 = .ok (.aload_n 0, 1) := by decide +kernel
theorem dX0_withWord_25 : decode cX0_withWord 25 = .ok (.iload 5, 2) := by decide +kernel
theorem dX0_withWord_27 : decode cX0_withWord 27 = .ok (.iload_n 2, 1) := by decide +kernel
theorem dX0_withWord_28 : decode cX0_withWord 28 = .ok (.invokevirtual 79, 3) := by decide +kernel
theorem dX0_withWord_31 : decode cX0_withWord 31 = .ok (.iload_n 3, 1) := by decide +kernel
theorem dX0_withWord_32 : decode cX0_withWord 32 = .ok (.if_icmp .ne 6, 3) := by decide +kernel
theorem dX0_withWord_35 : decode cX0_withWord 35 = .ok (.iinc 4 1, 3) := by decide +kernel
theorem dX0_withWord_38 : decode cX0_withWord 38 = .ok (.iinc 5 1, 3) := by decide +kernel
theorem dX0_withWord_41 : decode cX0_withWord 41 = .ok (.goto (-35), 3) := by decide +kernel
theorem dX0_withWord_44 : decode cX0_withWord 44 = .ok (.iload 4, 2) := by decide +kernel
theorem dX0_withWord_46 : decode cX0_withWord 46 = .ok (.ireturn, 1) := by decide +kernel
theorem dX0_has_0 : decode cX0_has 0 = .ok (.iload_n 1, 1) := by decide +kernel
theorem dX0_has_1 : decode cX0_has 1 = .ok (.ifCond .lt 22, 3) := by decide +kernel
theorem dX0_has_4 : decode cX0_has 4 = .ok (.iload_n 1, 1) := by decide +kernel
theorem dX0_has_5 : decode cX0_has 5 = .ok (.bipush 7, 2) := by decide +kernel
theorem dX0_has_7 : decode cX0_has 7 = .ok (.if_icmp .ge 16, 3) := by decide +kernel
theorem dX0_has_10 : decode cX0_has 10 = .ok (.iload_n 0, 1) := by decide +kernel
theorem dX0_has_11 : decode cX0_has 11 = .ok (.iload_n 1, 1) := by decide +kernel
theorem dX0_has_12 : decode cX0_has 12 = .ok (.ishr, 1) := by decide +kernel
theorem dX0_has_13 : decode cX0_has 13 = .ok (.iconst 1, 1) := by decide +kernel
theorem dX0_has_14 : decode cX0_has 14 = .ok (.iand, 1) := by decide +kernel
theorem dX0_has_15 : decode cX0_has 15 = .ok (.iconst 1, 1) := by decide +kernel
theorem dX0_has_16 : decode cX0_has 16 = .ok (.if_icmp .ne 7, 3) := by decide +kernel
theorem dX0_has_19 : decode cX0_has 19 = .ok (.iconst 1, 1) := by decide +kernel
theorem dX0_has_20 : decode cX0_has 20 = .ok (.goto 4, 3) := by decide +kernel
theorem dX0_has_23 : decode cX0_has 23 = .ok (.iconst 0, 1) := by decide +kernel
theorem dX0_has_24 : decode cX0_has 24 = .ok (.ireturn, 1) := by decide +kernel
theorem dX0_setEnds_0 : decode cX0_setEnds 0 = .ok (.iconst 0, 1) := by decide +kernel
theorem dX0_setEnds_1 : decode cX0_setEnds 1 = .ok (.istore_n 2, 1) := by decide +kernel
theorem dX0_setEnds_2 : decode cX0_setEnds 2 = .ok (.iload_n 2, 1) := by decide +kernel
theorem dX0_setEnds_3 : decode cX0_setEnds 3 = .ok (.bipush 7, 2) := by decide +kernel
theorem dX0_setEnds_5 : decode cX0_setEnds 5 = .ok (.if_icmp .ge 73, 3) := by decide +kernel
theorem dX0_setEnds_8 : decode cX0_setEnds 8 = .ok (.iconst 0, 1) := by decide +kernel
theorem dX0_setEnds_9 : decode cX0_setEnds 9 = .ok (.istore_n 3, 1) := by decide +kernel
theorem dX0_setEnds_10 : decode cX0_setEnds 10 = .ok (.iload_n 3, 1) := by decide +kernel
theorem dX0_setEnds_11 : decode cX0_setEnds 11 = .ok (.bipush 16, 2) := by decide +kernel
theorem dX0_setEnds_13 : decode cX0_setEnds 13 = .ok (.if_icmp .ge 59, 3) := by decide +kernel
theorem dX0_setEnds_16 : decode cX0_setEnds 16 = .ok (.iload_n 2, 1) := by decide +kernel
theorem dX0_setEnds_17 : decode cX0_setEnds 17 = .ok (.aload_n 0, 1) := by decide +kernel
theorem dX0_setEnds_18 : decode cX0_setEnds 18 = .ok (.getfield 36, 3) := by decide +kernel
theorem dX0_setEnds_21 : decode cX0_setEnds 21 = .ok (.if_icmp .ge 15, 3) := by decide +kernel
theorem dX0_setEnds_24 : decode cX0_setEnds 24 = .ok (.iload_n 3, 1) := by decide +kernel
theorem dX0_setEnds_25 : decode cX0_setEnds 25 = .ok (.aload_n 1, 1) := by decide +kernel
theorem dX0_setEnds_26 : decode cX0_setEnds 26 = .ok (.invokevirtual 89, 3) := by decide +kernel
theorem dX0_setEnds_29 : decode cX0_setEnds 29 = .ok (.if_icmp .ge 7, 3) := by decide +kernel
theorem dX0_setEnds_32 : decode cX0_setEnds 32 = .ok (.iconst 1, 1) := by decide +kernel
theorem dX0_setEnds_33 : decode cX0_setEnds 33 = .ok (.goto 4, 3) := by decide +kernel
theorem dX0_setEnds_36 : decode cX0_setEnds 36 = .ok (.iconst 0, 1) := by decide +kernel
theorem dX0_setEnds_37 : decode cX0_setEnds 37 = .ok (.istore 4, 2) := by decide +kernel
theorem dX0_setEnds_39 : decode cX0_setEnds 39 = .ok (.aload_n 0, 1) := by decide +kernel
theorem dX0_setEnds_40 : decode cX0_setEnds 40 = .ok (.getfield 9, 3) := by decide +kernel
theorem dX0_setEnds_43 : decode cX0_setEnds 43 = .ok (.iload_n 2, 1) := by decide +kernel
theorem dX0_setEnds_44 : decode cX0_setEnds 44 = .ok (.bipush 16, 2) := by decide +kernel
theorem dX0_setEnds_46 : decode cX0_setEnds 46 = .ok (.imul, 1) := by decide +kernel
theorem dX0_setEnds_47 : decode cX0_setEnds 47 = .ok (.iload_n 3, 1) := by decide +kernel
theorem dX0_setEnds_48 : decode cX0_setEnds 48 = .ok (.iadd, 1) := by decide +kernel
theorem dX0_setEnds_49 : decode cX0_setEnds 49 = .ok (.iload 4, 2) := by decide +kernel
theorem dX0_setEnds_51 : decode cX0_setEnds 51 = .ok (.ifCond .eq 12, 3) := by decide +kernel
theorem dX0_setEnds_54 : decode cX0_setEnds 54 = .ok (.aload_n 1, 1) := by decide +kernel
theorem dX0_setEnds_55 : decode cX0_setEnds 55 = .ok (.iload_n 2, 1) := by decide +kernel
theorem dX0_setEnds_56 : decode cX0_setEnds 56 = .ok (.iload_n 3, 1) := by decide +kernel
theorem dX0_setEnds_57 : decode cX0_setEnds 57 = .ok (.invokestatic 92, 3) := by decide +kernel
theorem dX0_setEnds_60 : decode cX0_setEnds 60 = .ok (.goto 5, 3) := by decide +kernel
theorem dX0_setEnds_63 : decode cX0_setEnds 63 = .ok (.bipush (-9), 2) := by decide +kernel
theorem dX0_setEnds_65 : decode cX0_setEnds 65 = .ok (.iastore, 1) := by decide +kernel
theorem dX0_setEnds_66 : decode cX0_setEnds 66 = .ok (.iinc 3 1, 3) := by decide +kernel
theorem dX0_setEnds_69 : decode cX0_setEnds 69 = .ok (.goto (-59), 3) := by decide +kernel
theorem dX0_setEnds_72 : decode cX0_setEnds 72 = .ok (.iinc 2 1, 3) := by decide +kernel
theorem dX0_setEnds_75 : decode cX0_setEnds 75 = .ok (.goto (-73), 3) := by decide +kernel
theorem dX0_setEnds_78 : decode cX0_setEnds 78 = .ok (.return_, 1) := by decide +kernel
theorem dX0_leadOver_0 : decode cX0_leadOver 0 = .ok (.iload_n 1, 1) := by decide +kernel
theorem dX0_leadOver_1 : decode cX0_leadOver 1 = .ok (.istore_n 3, 1) := by decide +kernel
theorem dX0_leadOver_2 : decode cX0_leadOver 2 = .ok (.aload_n 0, 1) := by decide +kernel
theorem dX0_leadOver_3 : decode cX0_leadOver 3 = .ok (.getfield 96, 3) := by decide +kernel
theorem dX0_leadOver_6 : decode cX0_leadOver 6 = .ok (.iconst 1, 1) := by decide +kernel
theorem dX0_leadOver_7 : decode cX0_leadOver 7 = .ok (.isub, 1) := by decide +kernel
theorem dX0_leadOver_8 : decode cX0_leadOver 8 = .ok (.istore 4, 2) := by decide +kernel
theorem dX0_leadOver_10 : decode cX0_leadOver 10 = .ok (.iload 4, 2) := by decide +kernel
theorem dX0_leadOver_12 : decode cX0_leadOver 12 = .ok (.ifCond .lt 27, 3) := by decide +kernel
theorem dX0_leadOver_15 : decode cX0_leadOver 15 = .ok (.iload_n 3, 1) := by decide +kernel
theorem dX0_leadOver_16 : decode cX0_leadOver 16 = .ok (.bipush (-9), 2) := by decide +kernel
theorem dX0_leadOver_18 : decode cX0_leadOver 18 = .ok (.if_icmp .eq 21, 3) := by decide +kernel
theorem dX0_leadOver_21 : decode cX0_leadOver 21 = .ok (.aload_n 0, 1) := by decide +kernel
theorem dX0_leadOver_22 : decode cX0_leadOver 22 = .ok (.iload_n 3, 1) := by decide +kernel
theorem dX0_leadOver_23 : decode cX0_leadOver 23 = .ok (.iload_n 2, 1) := by decide +kernel
theorem dX0_leadOver_24 : decode cX0_leadOver 24 = .ok (.iload 4, 2) := by decide +kernel
theorem dX0_leadOver_26 : decode cX0_leadOver 26 = .ok (.ishr, 1) := by decide +kernel
theorem dX0_leadOver_27 : decode cX0_leadOver 27 = .ok (.iconst 1, 1) := by decide +kernel
theorem dX0_leadOver_28 : decode cX0_leadOver 28 = .ok (.iand, 1) := by decide +kernel
theorem dX0_leadOver_29 : decode cX0_leadOver 29 = .ok (.invokevirtual 99, 3) := by decide +kernel
theorem dX0_leadOver_32 : decode cX0_leadOver 32 = .ok (.istore_n 3, 1) := by decide +kernel
theorem dX0_leadOver_33 : decode cX0_leadOver 33 = .ok (.iinc 4 (-1), 3) := by decide +kernel
theorem dX0_leadOver_36 : decode cX0_leadOver 36 = .ok (.goto (-26), 3) := by decide +kernel
theorem dX0_leadOver_39 : decode cX0_leadOver 39 = .ok (.iload_n 3, 1) := by decide +kernel
theorem dX0_leadOver_40 : decode cX0_leadOver 40 = .ok (.ireturn, 1) := by decide +kernel
theorem dX0_setGood_0 : decode cX0_setGood 0 = .ok (.aload_n 0, 1) := by decide +kernel
theorem dX0_setGood_1 : decode cX0_setGood 1 = .ok (.iconst 1, 1) := by decide +kernel
theorem dX0_setGood_2 : decode cX0_setGood 2 = .ok (.aload_n 0, 1) := by decide +kernel
theorem dX0_setGood_3 : decode cX0_setGood 3 = .ok (.getfield 36, 3) := by decide +kernel
theorem dX0_setGood_6 : decode cX0_setGood 6 = .ok (.ishl, 1) := by decide +kernel
theorem dX0_setGood_7 : decode cX0_setGood 7 = .ok (.iconst 1, 1) := by decide +kernel
theorem dX0_setGood_8 : decode cX0_setGood 8 = .ok (.isub, 1) := by decide +kernel
theorem dX0_setGood_9 : decode cX0_setGood 9 = .ok (.putfield 66, 3) := by decide +kernel
theorem dX0_setGood_12 : decode cX0_setGood 12 = .ok (.iconst 0, 1) := by decide +kernel
theorem dX0_setGood_13 : decode cX0_setGood 13 = .ok (.istore_n 2, 1) := by decide +kernel
theorem dX0_setGood_14 : decode cX0_setGood 14 = .ok (.iload_n 2, 1) := by decide +kernel
theorem dX0_setGood_15 : decode cX0_setGood 15 = .ok (.bipush 7, 2) := by decide +kernel
theorem dX0_setGood_17 : decode cX0_setGood 17 = .ok (.if_icmp .gt 74, 3) := by decide +kernel
theorem dX0_setGood_20 : decode cX0_setGood 20 = .ok (.iconst 0, 1) := by decide +kernel
theorem dX0_setGood_21 : decode cX0_setGood 21 = .ok (.istore_n 3, 1) := by decide +kernel
theorem dX0_setGood_22 : decode cX0_setGood 22 = .ok (.iconst 0, 1) := by decide +kernel
theorem dX0_setGood_23 : decode cX0_setGood 23 = .ok (.istore 4, 2) := by decide +kernel
theorem dX0_setGood_25 : decode cX0_setGood 25 = .ok (.iload 4, 2) := by decide +kernel
theorem dX0_setGood_27 : decode cX0_setGood 27 = .ok (.aload_n 0, 1) := by decide +kernel
theorem dX0_setGood_28 : decode cX0_setGood 28 = .ok (.getfield 36, 3) := by decide +kernel
theorem dX0_setGood_31 : decode cX0_setGood 31 = .ok (.if_icmp .ge 38, 3) := by decide +kernel
theorem dX0_setGood_34 : decode cX0_setGood 34 = .ok (.aload_n 0, 1) := by decide +kernel
theorem dX0_setGood_35 : decode cX0_setGood 35 = .ok (.getfield 66, 3) := by decide +kernel
theorem dX0_setGood_38 : decode cX0_setGood 38 = .ok (.iload 4, 2) := by decide +kernel
theorem dX0_setGood_40 : decode cX0_setGood 40 = .ok (.invokestatic 69, 3) := by decide +kernel
theorem dX0_setGood_43 : decode cX0_setGood 43 = .ok (.ifCond .eq 20, 3) := by decide +kernel
theorem dX0_setGood_46 : decode cX0_setGood 46 = .ok (.aload_n 0, 1) := by decide +kernel
theorem dX0_setGood_47 : decode cX0_setGood 47 = .ok (.iload 4, 2) := by decide +kernel
theorem dX0_setGood_49 : decode cX0_setGood 49 = .ok (.invokevirtual 102, 3) := by decide +kernel
theorem dX0_setGood_52 : decode cX0_setGood 52 = .ok (.iload_n 1, 1) := by decide +kernel
theorem dX0_setGood_53 : decode cX0_setGood 53 = .ok (.if_icmp .lt 10, 3) := by decide +kernel
theorem dX0_setGood_56 : decode cX0_setGood 56 = .ok (.iload_n 3, 1) := by decide +kernel
theorem dX0_setGood_57 : decode cX0_setGood 57 = .ok (.iconst 1, 1) := by decide +kernel
theorem dX0_setGood_58 : decode cX0_setGood 58 = .ok (.iload 4, 2) := by decide +kernel
theorem dX0_setGood_60 : decode cX0_setGood 60 = .ok (.ishl, 1) := by decide +kernel
theorem dX0_setGood_61 : decode cX0_setGood 61 = .ok (.ior, 1) := by decide +kernel
theorem dX0_setGood_62 : decode cX0_setGood 62 = .ok (.istore_n 3, 1) := by decide +kernel
theorem dX0_setGood_63 : decode cX0_setGood 63 = .ok (.iinc 4 1, 3) := by decide +kernel
theorem dX0_setGood_66 : decode cX0_setGood 66 = .ok (.goto (-41), 3) := by decide +kernel
theorem dX0_setGood_69 : decode cX0_setGood 69 = .ok (.iload_n 3, 1) := by decide +kernel
theorem dX0_setGood_70 : decode cX0_setGood 70 = .ok (.aload_n 0, 1) := by decide +kernel
theorem dX0_setGood_71 : decode cX0_setGood 71 = .ok (.getfield 66, 3) := by decide +kernel
theorem dX0_setGood_74 : decode cX0_setGood 74 = .ok (.if_icmp .ne 6, 3) := by decide +kernel
theorem dX0_setGood_77 : decode cX0_setGood 77 = .ok (.goto 14, 3) := by decide +kernel
theorem dX0_setGood_80 : decode cX0_setGood 80 = .ok (.aload_n 0, 1) := by decide +kernel
theorem dX0_setGood_81 : decode cX0_setGood 81 = .ok (.iload_n 3, 1) := by decide +kernel
theorem dX0_setGood_82 : decode cX0_setGood 82 = .ok (.putfield 66, 3) := by decide +kernel
theorem dX0_setGood_85 : decode cX0_setGood 85 = .ok (.iinc 2 1, 3) := by decide +kernel
theorem dX0_setGood_88 : decode cX0_setGood 88 = .ok (.goto (-74), 3) := by decide +kernel
theorem dX0_setGood_91 : decode cX0_setGood 91 = .ok (.return_, 1) := by decide +kernel
theorem dX0_lowestGood_0 : decode cX0_lowestGood 0 = .ok (.iconst 0, 1) := by decide +kernel
theorem dX0_lowestGood_1 : decode cX0_lowestGood 1 = .ok (.istore_n 1, 1) := by decide +kernel
theorem dX0_lowestGood_2 : decode cX0_lowestGood 2 = .ok (.iload_n 1, 1) := by decide +kernel
theorem dX0_lowestGood_3 : decode cX0_lowestGood 3 = .ok (.aload_n 0, 1) := by decide +kernel
theorem dX0_lowestGood_4 : decode cX0_lowestGood 4 = .ok (.getfield 36, 3) := by decide +kernel
theorem dX0_lowestGood_7 : decode cX0_lowestGood 7 = .ok (.if_icmp .ge 22, 3) := by decide +kernel
theorem dX0_lowestGood_10 : decode cX0_lowestGood 10 = .ok (.aload_n 0, 1) := by decide +kernel
theorem dX0_lowestGood_11 : decode cX0_lowestGood 11 = .ok (.getfield 66, 3) := by decide +kernel
theorem dX0_lowestGood_14 : decode cX0_lowestGood 14 = .ok (.iload_n 1, 1) := by decide +kernel
theorem dX0_lowestGood_15 : decode cX0_lowestGood 15 = .ok (.invokestatic 69, 3) := by decide +kernel
theorem dX0_lowestGood_18 : decode cX0_lowestGood 18 = .ok (.ifCond .eq 5, 3) := by decide +kernel
theorem dX0_lowestGood_21 : decode cX0_lowestGood 21 = .ok (.iload_n 1, 1) := by decide +kernel
theorem dX0_lowestGood_22 : decode cX0_lowestGood 22 = .ok (.ireturn, 1) := by decide +kernel
theorem dX0_lowestGood_23 : decode cX0_lowestGood 23 = .ok (.iinc 1 1, 3) := by decide +kernel
theorem dX0_lowestGood_26 : decode cX0_lowestGood 26 = .ok (.goto (-24), 3) := by decide +kernel
theorem dX0_lowestGood_29 : decode cX0_lowestGood 29 = .ok (.bipush (-9), 2) := by decide +kernel
theorem dX0_lowestGood_31 : decode cX0_lowestGood 31 = .ok (.ireturn, 1) := by decide +kernel
theorem dX0_arcsToGood_0 : decode cX0_arcsToGood 0 = .ok (.iconst 0, 1) := by decide +kernel
theorem dX0_arcsToGood_1 : decode cX0_arcsToGood 1 = .ok (.istore_n 2, 1) := by decide +kernel
theorem dX0_arcsToGood_2 : decode cX0_arcsToGood 2 = .ok (.iconst 0, 1) := by decide +kernel
theorem dX0_arcsToGood_3 : decode cX0_arcsToGood 3 = .ok (.istore_n 3, 1) := by decide +kernel
theorem dX0_arcsToGood_4 : decode cX0_arcsToGood 4 = .ok (.iload_n 3, 1) := by decide +kernel
theorem dX0_arcsToGood_5 : decode cX0_arcsToGood 5 = .ok (.bipush 16, 2) := by decide +kernel
theorem dX0_arcsToGood_7 : decode cX0_arcsToGood 7 = .ok (.if_icmp .ge 28, 3) := by decide +kernel
theorem dX0_arcsToGood_10 : decode cX0_arcsToGood 10 = .ok (.aload_n 0, 1) := by decide +kernel
theorem dX0_arcsToGood_11 : decode cX0_arcsToGood 11 = .ok (.getfield 66, 3) := by decide +kernel
theorem dX0_arcsToGood_14 : decode cX0_arcsToGood 14 = .ok (.aload_n 0, 1) := by decide +kernel
theorem dX0_arcsToGood_15 : decode cX0_arcsToGood 15 = .ok (.iload_n 1, 1) := by decide +kernel
theorem dX0_arcsToGood_16 : decode cX0_arcsToGood 16 = .ok (.iload_n 3, 1) := by decide +kernel
theorem dX0_arcsToGood_17 : decode cX0_arcsToGood 17 = .ok (.invokevirtual 73, 3) := by decide +kernel
theorem dX0_arcsToGood_20 : decode cX0_arcsToGood 20 = .ok (.invokestatic 69, 3) := by decide +kernel
theorem dX0_arcsToGood_23 : decode cX0_arcsToGood 23 = .ok (.ifCond .eq 6, 3) := by decide +kernel
theorem dX0_arcsToGood_26 : decode cX0_arcsToGood 26 = .ok (.iinc 2 1, 3) := by decide +kernel
theorem dX0_arcsToGood_29 : decode cX0_arcsToGood 29 = .ok (.iinc 3 1, 3) := by decide +kernel
theorem dX0_arcsToGood_32 : decode cX0_arcsToGood 32 = .ok (.goto (-28), 3) := by decide +kernel
theorem dX0_arcsToGood_35 : decode cX0_arcsToGood 35 = .ok (.iload_n 2, 1) := by decide +kernel
theorem dX0_arcsToGood_36 : decode cX0_arcsToGood 36 = .ok (.ireturn, 1) := by decide +kernel
theorem dX0_setTags_0 : decode cX0_setTags 0 = .ok (.iconst 0, 1) := by decide +kernel
theorem dX0_setTags_1 : decode cX0_setTags 1 = .ok (.istore_n 2, 1) := by decide +kernel
theorem dX0_setTags_2 : decode cX0_setTags 2 = .ok (.iload_n 2, 1) := by decide +kernel
theorem dX0_setTags_3 : decode cX0_setTags 3 = .ok (.bipush 7, 2) := by decide +kernel
theorem dX0_setTags_5 : decode cX0_setTags 5 = .ok (.if_icmp .ge 98, 3) := by decide +kernel
theorem dX0_setTags_8 : decode cX0_setTags 8 = .ok (.iconst 0, 1) := by decide +kernel
theorem dX0_setTags_9 : decode cX0_setTags 9 = .ok (.istore_n 3, 1) := by decide +kernel
theorem dX0_setTags_10 : decode cX0_setTags 10 = .ok (.iconst 0, 1) := by decide +kernel
theorem dX0_setTags_11 : decode cX0_setTags 11 = .ok (.istore 4, 2) := by decide +kernel
theorem dX0_setTags_13 : decode cX0_setTags 13 = .ok (.iload 4, 2) := by decide +kernel
theorem dX0_setTags_15 : decode cX0_setTags 15 = .ok (.bipush 16, 2) := by decide +kernel
theorem dX0_setTags_17 : decode cX0_setTags 17 = .ok (.if_icmp .ge 80, 3) := by decide +kernel
theorem dX0_setTags_20 : decode cX0_setTags 20 = .ok (.aload_n 0, 1) := by decide +kernel
theorem dX0_setTags_21 : decode cX0_setTags 21 = .ok (.getfield 66, 3) := by decide +kernel
theorem dX0_setTags_24 : decode cX0_setTags 24 = .ok (.iload_n 2, 1) := by decide +kernel
theorem dX0_setTags_25 : decode cX0_setTags 25 = .ok (.invokestatic 69, 3) := by decide +kernel
theorem dX0_setTags_28 : decode cX0_setTags 28 = .ok (.ifCond .eq 29, 3) := by decide +kernel
theorem dX0_setTags_31 : decode cX0_setTags 31 = .ok (.aload_n 0, 1) := by decide +kernel
theorem dX0_setTags_32 : decode cX0_setTags 32 = .ok (.getfield 66, 3) := by decide +kernel
theorem dX0_setTags_35 : decode cX0_setTags 35 = .ok (.aload_n 0, 1) := by decide +kernel
theorem dX0_setTags_36 : decode cX0_setTags 36 = .ok (.iload_n 2, 1) := by decide +kernel
theorem dX0_setTags_37 : decode cX0_setTags 37 = .ok (.iload 4, 2) := by decide +kernel
theorem dX0_setTags_39 : decode cX0_setTags 39 = .ok (.invokevirtual 73, 3) := by decide +kernel
theorem dX0_setTags_42 : decode cX0_setTags 42 = .ok (.invokestatic 69, 3) := by decide +kernel
theorem dX0_setTags_45 : decode cX0_setTags 45 = .ok (.ifCond .eq 12, 3) := by decide +kernel
theorem dX0_setTags_48 : decode cX0_setTags 48 = .ok (.iload_n 3, 1) := by decide +kernel
theorem dX0_setTags_49 : decode cX0_setTags 49 = .ok (.iload_n 1, 1) := by decide +kernel
theorem dX0_setTags_50 : decode cX0_setTags 50 = .ok (.if_icmp .ge 7, 3) := by decide +kernel
theorem dX0_setTags_53 : decode cX0_setTags 53 = .ok (.iconst 1, 1) := by decide +kernel
theorem dX0_setTags_54 : decode cX0_setTags 54 = .ok (.goto 4, 3) := by decide +kernel
theorem dX0_setTags_57 : decode cX0_setTags 57 = .ok (.iconst 0, 1) := by decide +kernel
theorem dX0_setTags_58 : decode cX0_setTags 58 = .ok (.istore 5, 2) := by decide +kernel
theorem dX0_setTags_60 : decode cX0_setTags 60 = .ok (.aload_n 0, 1) := by decide +kernel
theorem dX0_setTags_61 : decode cX0_setTags 61 = .ok (.getfield 15, 3) := by decide +kernel
theorem dX0_setTags_64 : decode cX0_setTags 64 = .ok (.iload_n 2, 1) := by decide +kernel
theorem dX0_setTags_65 : decode cX0_setTags 65 = .ok (.bipush 16, 2) := by decide +kernel
theorem dX0_setTags_67 : decode cX0_setTags 67 = .ok (.imul, 1) := by decide +kernel
theorem dX0_setTags_68 : decode cX0_setTags 68 = .ok (.iload 4, 2) := by decide +kernel
theorem dX0_setTags_70 : decode cX0_setTags 70 = .ok (.iadd, 1) := by decide +kernel
theorem dX0_setTags_71 : decode cX0_setTags 71 = .ok (.iload 5, 2) := by decide +kernel
theorem dX0_setTags_73 : decode cX0_setTags 73 = .ok (.ifCond .eq 7, 3) := by decide +kernel
theorem dX0_setTags_76 : decode cX0_setTags 76 = .ok (.iload_n 3, 1) := by decide +kernel
theorem dX0_setTags_77 : decode cX0_setTags 77 = .ok (.goto 5, 3) := by decide +kernel
theorem dX0_setTags_80 : decode cX0_setTags 80 = .ok (.bipush (-9), 2) := by decide +kernel
theorem dX0_setTags_82 : decode cX0_setTags 82 = .ok (.iastore, 1) := by decide +kernel
theorem dX0_setTags_83 : decode cX0_setTags 83 = .ok (.iload 5, 2) := by decide +kernel
theorem dX0_setTags_85 : decode cX0_setTags 85 = .ok (.ifCond .eq 6, 3) := by decide +kernel
theorem dX0_setTags_88 : decode cX0_setTags 88 = .ok (.iinc 3 1, 3) := by decide +kernel
theorem dX0_setTags_91 : decode cX0_setTags 91 = .ok (.iinc 4 1, 3) := by decide +kernel
theorem dX0_setTags_94 : decode cX0_setTags 94 = .ok (.goto (-81), 3) := by decide +kernel
theorem dX0_setTags_97 : decode cX0_setTags 97 = .ok (.iinc 2 1, 3) := by decide +kernel
theorem dX0_setTags_100 : decode cX0_setTags 100 = .ok (.goto (-98), 3) := by decide +kernel
theorem dX0_setTags_103 : decode cX0_setTags 103 = .ok (.return_, 1) := by decide +kernel
theorem dX0_narrowestWindow_0 : decode cX0_narrowestWindow 0 = .ok (.aload_n 0, 1) := by decide +kernel
theorem dX0_narrowestWindow_1 : decode cX0_narrowestWindow 1 = .ok (.getfield 66, 3) := by decide +kernel
theorem dX0_narrowestWindow_4 : decode cX0_narrowestWindow 4 = .ok (.ifCond .ne 6, 3) := by decide +kernel
theorem dX0_narrowestWindow_7 : decode cX0_narrowestWindow 7 = .ok (.bipush (-9), 2) := by decide +kernel
theorem dX0_narrowestWindow_9 : decode cX0_narrowestWindow 9 = .ok (.ireturn, 1) := by decide +kernel
theorem dX0_narrowestWindow_10 : decode cX0_narrowestWindow 10 = .ok (.iconst 0, 1) := by decide +kernel
theorem dX0_narrowestWindow_11 : decode cX0_narrowestWindow 11 = .ok (.istore_n 1, 1) := by decide +kernel
theorem dX0_narrowestWindow_12 : decode cX0_narrowestWindow 12 = .ok (.iload_n 1, 1) := by decide +kernel
theorem dX0_narrowestWindow_13 : decode cX0_narrowestWindow 13 = .ok (.bipush 7, 2) := by decide +kernel
theorem dX0_narrowestWindow_15 : decode cX0_narrowestWindow 15 = .ok (.if_icmp .ge 19, 3) := by decide +kernel
theorem dX0_narrowestWindow_18 : decode cX0_narrowestWindow 18 = .ok (.aload_n 0, 1) := by decide +kernel
theorem dX0_narrowestWindow_19 : decode cX0_narrowestWindow 19 = .ok (.getfield 18, 3) := by decide +kernel
theorem dX0_narrowestWindow_22 : decode cX0_narrowestWindow 22 = .ok (.iload_n 1, 1) := by decide +kernel
theorem dX0_narrowestWindow_23 : decode cX0_narrowestWindow 23 = .ok (.aload_n 0, 1) := by decide +kernel
theorem dX0_narrowestWindow_24 : decode cX0_narrowestWindow 24 = .ok (.getfield 66, 3) := by decide +kernel
theorem dX0_narrowestWindow_27 : decode cX0_narrowestWindow 27 = .ok (.iastore, 1) := by decide +kernel
theorem dX0_narrowestWindow_28 : decode cX0_narrowestWindow 28 = .ok (.iinc 1 1, 3) := by decide +kernel
theorem dX0_narrowestWindow_31 : decode cX0_narrowestWindow 31 = .ok (.goto (-19), 3) := by decide +kernel
theorem dX0_narrowestWindow_34 : decode cX0_narrowestWindow 34 = .ok (.iconst 0, 1) := by decide +kernel
theorem dX0_narrowestWindow_35 : decode cX0_narrowestWindow 35 = .ok (.istore_n 1, 1) := by decide +kernel
theorem dX0_narrowestWindow_36 : decode cX0_narrowestWindow 36 = .ok (.iload_n 1, 1) := by decide +kernel
theorem dX0_narrowestWindow_37 : decode cX0_narrowestWindow 37 = .ok (.iconst 3, 1) := by decide +kernel
theorem dX0_narrowestWindow_38 : decode cX0_narrowestWindow 38 = .ok (.if_icmp .gt 22, 3) := by decide +kernel
theorem dX0_narrowestWindow_41 : decode cX0_narrowestWindow 41 = .ok (.aload_n 0, 1) := by decide +kernel
theorem dX0_narrowestWindow_42 : decode cX0_narrowestWindow 42 = .ok (.invokevirtual 106, 3) := by decide +kernel
theorem dX0_narrowestWindow_45 : decode cX0_narrowestWindow 45 = .ok (.ifCond .ne 5, 3) := by decide +kernel
theorem dX0_narrowestWindow_48 : decode cX0_narrowestWindow 48 = .ok (.iload_n 1, 1) := by decide +kernel
theorem dX0_narrowestWindow_49 : decode cX0_narrowestWindow 49 = .ok (.ireturn, 1) := by decide +kernel
theorem dX0_narrowestWindow_50 : decode cX0_narrowestWindow 50 = .ok (.aload_n 0, 1) := by decide +kernel
theorem dX0_narrowestWindow_51 : decode cX0_narrowestWindow 51 = .ok (.invokevirtual 110, 3) := by decide +kernel
theorem dX0_narrowestWindow_54 : decode cX0_narrowestWindow 54 = .ok (.iinc 1 1, 3) := by decide +kernel
theorem dX0_narrowestWindow_57 : decode cX0_narrowestWindow 57 = .ok (.goto (-21), 3) := by decide +kernel
theorem dX0_narrowestWindow_60 : decode cX0_narrowestWindow 60 = .ok (.bipush (-9), 2) := by decide +kernel
theorem dX0_narrowestWindow_62 : decode cX0_narrowestWindow 62 = .ok (.ireturn, 1) := by decide +kernel
theorem dX0_isDoubtful_0 : decode cX0_isDoubtful 0 = .ok (.iconst 0, 1) := by decide +kernel
theorem dX0_isDoubtful_1 : decode cX0_isDoubtful 1 = .ok (.istore_n 1, 1) := by decide +kernel
theorem dX0_isDoubtful_2 : decode cX0_isDoubtful 2 = .ok (.iload_n 1, 1) := by decide +kernel
theorem dX0_isDoubtful_3 : decode cX0_isDoubtful 3 = .ok (.aload_n 0, 1) := by decide +kernel
theorem dX0_isDoubtful_4 : decode cX0_isDoubtful 4 = .ok (.getfield 36, 3) := by decide +kernel
theorem dX0_isDoubtful_7 : decode cX0_isDoubtful 7 = .ok (.if_icmp .ge 63, 3) := by decide +kernel
theorem dX0_isDoubtful_10 : decode cX0_isDoubtful 10 = .ok (.iconst 0, 1) := by decide +kernel
theorem dX0_isDoubtful_11 : decode cX0_isDoubtful 11 = .ok (.istore_n 2, 1) := by decide +kernel
theorem dX0_isDoubtful_12 : decode cX0_isDoubtful 12 = .ok (.iload_n 2, 1) := by decide +kernel
theorem dX0_isDoubtful_13 : decode cX0_isDoubtful 13 = .ok (.iload_n 1, 1) := by decide +kernel
theorem dX0_isDoubtful_14 : decode cX0_isDoubtful 14 = .ok (.if_icmp .ge 50, 3) := by decide +kernel
theorem dX0_isDoubtful_17 : decode cX0_isDoubtful 17 = .ok (.iconst 0, 1) := by decide +kernel
theorem dX0_isDoubtful_18 : decode cX0_isDoubtful 18 = .ok (.istore_n 3, 1) := by decide +kernel
theorem dX0_isDoubtful_19 : decode cX0_isDoubtful 19 = .ok (.iload_n 3, 1) := by decide +kernel
theorem dX0_isDoubtful_20 : decode cX0_isDoubtful 20 = .ok (.bipush 16, 2) := by decide +kernel
theorem dX0_isDoubtful_22 : decode cX0_isDoubtful 22 = .ok (.if_icmp .ge 36, 3) := by decide +kernel
theorem dX0_isDoubtful_25 : decode cX0_isDoubtful 25 = .ok (.aload_n 0, 1) := by decide +kernel
theorem dX0_isDoubtful_26 : decode cX0_isDoubtful 26 = .ok (.iload_n 1, 1) := by decide +kernel
theorem dX0_isDoubtful_27 : decode cX0_isDoubtful 27 = .ok (.iload_n 2, 1) := by decide +kernel
theorem dX0_isDoubtful_28 : decode cX0_isDoubtful 28 = .ok (.iload_n 3, 1) := by decide +kernel
theorem dX0_isDoubtful_29 : decode cX0_isDoubtful 29 = .ok (.invokevirtual 113, 3) := by decide +kernel
theorem dX0_isDoubtful_32 : decode cX0_isDoubtful 32 = .ok (.ifCond .eq 20, 3) := by decide +kernel
theorem dX0_isDoubtful_35 : decode cX0_isDoubtful 35 = .ok (.aload_n 0, 1) := by decide +kernel
theorem dX0_isDoubtful_36 : decode cX0_isDoubtful 36 = .ok (.iload_n 1, 1) := by decide +kernel
theorem dX0_isDoubtful_37 : decode cX0_isDoubtful 37 = .ok (.iload_n 3, 1) := by decide +kernel
theorem dX0_isDoubtful_38 : decode cX0_isDoubtful 38 = .ok (.invokevirtual 76, 3) := by decide +kernel
theorem dX0_isDoubtful_41 : decode cX0_isDoubtful 41 = .ok (.aload_n 0, 1) := by decide +kernel
theorem dX0_isDoubtful_42 : decode cX0_isDoubtful 42 = .ok (.iload_n 2, 1) := by decide +kernel
theorem dX0_isDoubtful_43 : decode cX0_isDoubtful 43 = .ok (.iload_n 3, 1) := by decide +kernel
theorem dX0_isDoubtful_44 : decode cX0_isDoubtful 44 = .ok (.invokevirtual 76, 3) := by decide +kernel
theorem dX0_isDoubtful_47 : decode cX0_isDoubtful 47 = .ok (.if_icmp .eq 5, 3) := by decide +kernel
theorem dX0_isDoubtful_50 : decode cX0_isDoubtful 50 = .ok (.iconst 1, 1) := by decide +kernel
theorem dX0_isDoubtful_51 : decode cX0_isDoubtful 51 = .ok (.ireturn, 1) := by decide +kernel
theorem dX0_isDoubtful_52 : decode cX0_isDoubtful 52 = .ok (.iinc 3 1, 3) := by decide +kernel
theorem dX0_isDoubtful_55 : decode cX0_isDoubtful 55 = .ok (.goto (-36), 3) := by decide +kernel
theorem dX0_isDoubtful_58 : decode cX0_isDoubtful 58 = .ok (.iinc 2 1, 3) := by decide +kernel
theorem dX0_isDoubtful_61 : decode cX0_isDoubtful 61 = .ok (.goto (-49), 3) := by decide +kernel
theorem dX0_isDoubtful_64 : decode cX0_isDoubtful 64 = .ok (.iinc 1 1, 3) := by decide +kernel
theorem dX0_isDoubtful_67 : decode cX0_isDoubtful 67 = .ok (.goto (-65), 3) := by decide +kernel
theorem dX0_isDoubtful_70 : decode cX0_isDoubtful 70 = .ok (.iconst 0, 1) := by decide +kernel
theorem dX0_isDoubtful_71 : decode cX0_isDoubtful 71 = .ok (.ireturn, 1) := by decide +kernel
theorem dX0_goOnAlike_0 : decode cX0_goOnAlike 0 = .ok (.aload_n 0, 1) := by decide +kernel
theorem dX0_goOnAlike_1 : decode cX0_goOnAlike 1 = .ok (.iload_n 1, 1) := by decide +kernel
theorem dX0_goOnAlike_2 : decode cX0_goOnAlike 2 = .ok (.iload_n 3, 1) := by decide +kernel
theorem dX0_goOnAlike_3 : decode cX0_goOnAlike 3 = .ok (.invokevirtual 76, 3) := by decide +kernel
theorem dX0_goOnAlike_6 : decode cX0_goOnAlike 6 = .ok (.bipush (-9), 2) := by decide +kernel
theorem dX0_goOnAlike_8 : decode cX0_goOnAlike 8 = .ok (.if_icmp .eq 14, 3) := by decide +kernel
theorem dX0_goOnAlike_11 : decode cX0_goOnAlike 11 = .ok (.aload_n 0, 1) := by decide +kernel
theorem dX0_goOnAlike_12 : decode cX0_goOnAlike 12 = .ok (.iload_n 2, 1) := by decide +kernel
theorem dX0_goOnAlike_13 : decode cX0_goOnAlike 13 = .ok (.iload_n 3, 1) := by decide +kernel
theorem dX0_goOnAlike_14 : decode cX0_goOnAlike 14 = .ok (.invokevirtual 76, 3) := by decide +kernel
theorem dX0_goOnAlike_17 : decode cX0_goOnAlike 17 = .ok (.bipush (-9), 2) := by decide +kernel
theorem dX0_goOnAlike_19 : decode cX0_goOnAlike 19 = .ok (.if_icmp .ne 5, 3) := by decide +kernel
theorem dX0_goOnAlike_22 : decode cX0_goOnAlike 22 = .ok (.iconst 0, 1) := by decide +kernel
theorem dX0_goOnAlike_23 : decode cX0_goOnAlike 23 = .ok (.ireturn, 1) := by decide +kernel
theorem dX0_goOnAlike_24 : decode cX0_goOnAlike 24 = .ok (.aload_n 0, 1) := by decide +kernel
theorem dX0_goOnAlike_25 : decode cX0_goOnAlike 25 = .ok (.iload_n 1, 1) := by decide +kernel
theorem dX0_goOnAlike_26 : decode cX0_goOnAlike 26 = .ok (.iload_n 3, 1) := by decide +kernel
theorem dX0_goOnAlike_27 : decode cX0_goOnAlike 27 = .ok (.invokevirtual 73, 3) := by decide +kernel
theorem dX0_goOnAlike_30 : decode cX0_goOnAlike 30 = .ok (.istore 4, 2) := by decide +kernel
theorem dX0_goOnAlike_32 : decode cX0_goOnAlike 32 = .ok (.iload 4, 2) := by decide +kernel
theorem dX0_goOnAlike_34 : decode cX0_goOnAlike 34 = .ok (.ifCond .lt 33, 3) := by decide +kernel
theorem dX0_goOnAlike_37 : decode cX0_goOnAlike 37 = .ok (.iload 4, 2) := by decide +kernel
theorem dX0_goOnAlike_39 : decode cX0_goOnAlike 39 = .ok (.bipush 7, 2) := by decide +kernel
theorem dX0_goOnAlike_41 : decode cX0_goOnAlike 41 = .ok (.if_icmp .ge 26, 3) := by decide +kernel
theorem dX0_goOnAlike_44 : decode cX0_goOnAlike 44 = .ok (.aload_n 0, 1) := by decide +kernel
theorem dX0_goOnAlike_45 : decode cX0_goOnAlike 45 = .ok (.getfield 18, 3) := by decide +kernel
theorem dX0_goOnAlike_48 : decode cX0_goOnAlike 48 = .ok (.iload 4, 2) := by decide +kernel
theorem dX0_goOnAlike_50 : decode cX0_goOnAlike 50 = .ok (.iaload, 1) := by decide +kernel
theorem dX0_goOnAlike_51 : decode cX0_goOnAlike 51 = .ok (.aload_n 0, 1) := by decide +kernel
theorem dX0_goOnAlike_52 : decode cX0_goOnAlike 52 = .ok (.iload_n 2, 1) := by decide +kernel
theorem dX0_goOnAlike_53 : decode cX0_goOnAlike 53 = .ok (.iload_n 3, 1) := by decide +kernel
theorem dX0_goOnAlike_54 : decode cX0_goOnAlike 54 = .ok (.invokevirtual 73, 3) := by decide +kernel
theorem dX0_goOnAlike_57 : decode cX0_goOnAlike 57 = .ok (.invokestatic 69, 3) := by decide +kernel
theorem dX0_goOnAlike_60 : decode cX0_goOnAlike 60 = .ok (.ifCond .eq 7, 3) := by decide +kernel
theorem dX0_goOnAlike_63 : decode cX0_goOnAlike 63 = .ok (.iconst 1, 1) := by decide +kernel
theorem dX0_goOnAlike_64 : decode cX0_goOnAlike 64 = .ok (.goto 4, 3) := by decide +kernel
theorem dX0_goOnAlike_67 : decode cX0_goOnAlike 67 = .ok (.iconst 0, 1) := by decide +kernel
theorem dX0_goOnAlike_68 : decode cX0_goOnAlike 68 = .ok (.ireturn, 1) := by decide +kernel
theorem dX0_lengthenMates_0 : decode cX0_lengthenMates 0 = .ok (.iconst 0, 1) := by decide +kernel
theorem dX0_lengthenMates_1 : decode cX0_lengthenMates 1 = .ok (.istore_n 1, 1) := by decide +kernel
theorem dX0_lengthenMates_2 : decode cX0_lengthenMates 2 = .ok (.iload_n 1, 1) := by decide +kernel
theorem dX0_lengthenMates_3 : decode cX0_lengthenMates 3 = .ok (.bipush 7, 2) := by decide +kernel
theorem dX0_lengthenMates_5 : decode cX0_lengthenMates 5 = .ok (.if_icmp .ge 65, 3) := by decide +kernel
theorem dX0_lengthenMates_8 : decode cX0_lengthenMates 8 = .ok (.iconst 0, 1) := by decide +kernel
theorem dX0_lengthenMates_9 : decode cX0_lengthenMates 9 = .ok (.istore_n 2, 1) := by decide +kernel
theorem dX0_lengthenMates_10 : decode cX0_lengthenMates 10 = .ok (.iconst 0, 1) := by decide +kernel
theorem dX0_lengthenMates_11 : decode cX0_lengthenMates 11 = .ok (.istore_n 3, 1) := by decide +kernel
theorem dX0_lengthenMates_12 : decode cX0_lengthenMates 12 = .ok (.iload_n 3, 1) := by decide +kernel
theorem dX0_lengthenMates_13 : decode cX0_lengthenMates 13 = .ok (.bipush 7, 2) := by decide +kernel
theorem dX0_lengthenMates_15 : decode cX0_lengthenMates 15 = .ok (.if_icmp .ge 42, 3) := by decide +kernel
theorem dX0_lengthenMates_18 : decode cX0_lengthenMates 18 = .ok (.iconst 0, 1) := by decide +kernel
theorem dX0_lengthenMates_19 : decode cX0_lengthenMates 19 = .ok (.istore 4, 2) := by decide +kernel
theorem dX0_lengthenMates_21 : decode cX0_lengthenMates 21 = .ok (.iload 4, 2) := by decide +kernel
theorem dX0_lengthenMates_23 : decode cX0_lengthenMates 23 = .ok (.bipush 16, 2) := by decide +kernel
theorem dX0_lengthenMates_25 : decode cX0_lengthenMates 25 = .ok (.if_icmp .ge 26, 3) := by decide +kernel
theorem dX0_lengthenMates_28 : decode cX0_lengthenMates 28 = .ok (.aload_n 0, 1) := by decide +kernel
theorem dX0_lengthenMates_29 : decode cX0_lengthenMates 29 = .ok (.iload_n 1, 1) := by decide +kernel
theorem dX0_lengthenMates_30 : decode cX0_lengthenMates 30 = .ok (.iload_n 3, 1) := by decide +kernel
theorem dX0_lengthenMates_31 : decode cX0_lengthenMates 31 = .ok (.iload 4, 2) := by decide +kernel
theorem dX0_lengthenMates_33 : decode cX0_lengthenMates 33 = .ok (.invokevirtual 113, 3) := by decide +kernel
theorem dX0_lengthenMates_36 : decode cX0_lengthenMates 36 = .ok (.ifCond .eq 9, 3) := by decide +kernel
theorem dX0_lengthenMates_39 : decode cX0_lengthenMates 39 = .ok (.iload_n 2, 1) := by decide +kernel
theorem dX0_lengthenMates_40 : decode cX0_lengthenMates 40 = .ok (.iconst 1, 1) := by decide +kernel
theorem dX0_lengthenMates_41 : decode cX0_lengthenMates 41 = .ok (.iload_n 3, 1) := by decide +kernel
theorem dX0_lengthenMates_42 : decode cX0_lengthenMates 42 = .ok (.ishl, 1) := by decide +kernel
theorem dX0_lengthenMates_43 : decode cX0_lengthenMates 43 = .ok (.ior, 1) := by decide +kernel
theorem dX0_lengthenMates_44 : decode cX0_lengthenMates 44 = .ok (.istore_n 2, 1) := by decide +kernel
theorem dX0_lengthenMates_45 : decode cX0_lengthenMates 45 = .ok (.iinc 4 1, 3) := by decide +kernel
theorem dX0_lengthenMates_48 : decode cX0_lengthenMates 48 = .ok (.goto (-27), 3) := by decide +kernel
theorem dX0_lengthenMates_51 : decode cX0_lengthenMates 51 = .ok (.iinc 3 1, 3) := by decide +kernel
theorem dX0_lengthenMates_54 : decode cX0_lengthenMates 54 = .ok (.goto (-42), 3) := by decide +kernel
theorem dX0_lengthenMates_57 : decode cX0_lengthenMates 57 = .ok (.aload_n 0, 1) := by decide +kernel
theorem dX0_lengthenMates_58 : decode cX0_lengthenMates 58 = .ok (.getfield 21, 3) := by decide +kernel
theorem dX0_lengthenMates_61 : decode cX0_lengthenMates 61 = .ok (.iload_n 1, 1) := by decide +kernel
theorem dX0_lengthenMates_62 : decode cX0_lengthenMates 62 = .ok (.iload_n 2, 1) := by decide +kernel
theorem dX0_lengthenMates_63 : decode cX0_lengthenMates 63 = .ok (.iastore, 1) := by decide +kernel
theorem dX0_lengthenMates_64 : decode cX0_lengthenMates 64 = .ok (.iinc 1 1, 3) := by decide +kernel
theorem dX0_lengthenMates_67 : decode cX0_lengthenMates 67 = .ok (.goto (-65), 3) := by decide +kernel
theorem dX0_lengthenMates_70 : decode cX0_lengthenMates 70 = .ok (.aload_n 0, 1) := by decide +kernel
theorem dX0_lengthenMates_71 : decode cX0_lengthenMates 71 = .ok (.getfield 21, 3) := by decide +kernel
theorem dX0_lengthenMates_74 : decode cX0_lengthenMates 74 = .ok (.iconst 0, 1) := by decide +kernel
theorem dX0_lengthenMates_75 : decode cX0_lengthenMates 75 = .ok (.aload_n 0, 1) := by decide +kernel
theorem dX0_lengthenMates_76 : decode cX0_lengthenMates 76 = .ok (.getfield 18, 3) := by decide +kernel
theorem dX0_lengthenMates_79 : decode cX0_lengthenMates 79 = .ok (.iconst 0, 1) := by decide +kernel
theorem dX0_lengthenMates_80 : decode cX0_lengthenMates 80 = .ok (.bipush 7, 2) := by decide +kernel
theorem dX0_lengthenMates_82 : decode cX0_lengthenMates 82 = .ok (.invokestatic 117, 3) := by decide +kernel
theorem dX0_lengthenMates_85 : decode cX0_lengthenMates 85 = .ok (.return_, 1) := by decide +kernel
theorem dX1_init_0 : decode cX1_init 0 = .ok (.aload_n 0, 1) := by decide +kernel
theorem dX1_init_1 : decode cX1_init 1 = .ok (.invokespecial 3, 3) := by decide +kernel
theorem dX1_init_4 : decode cX1_init 4 = .ok (.aload_n 0, 1) := by decide +kernel
theorem dX1_init_5 : decode cX1_init 5 = .ok (.invokevirtual 9, 3) := by decide +kernel
theorem dX1_init_8 : decode cX1_init 8 = .ok (.return_, 1) := by decide +kernel
theorem dX1_setFirst_0 : decode cX1_setFirst 0 = .ok (.aload_n 0, 1) := by decide +kernel
theorem dX1_setFirst_1 : decode cX1_setFirst 1 = .ok (.iconst 0, 1) := by decide +kernel
theorem dX1_setFirst_2 : decode cX1_setFirst 2 = .ok (.putfield 14, 3) := by decide +kernel
theorem dX1_setFirst_5 : decode cX1_setFirst 5 = .ok (.aload_n 0, 1) := by decide +kernel
theorem dX1_setFirst_6 : decode cX1_setFirst 6 = .ok (.iconst 1, 1) := by decide +kernel
theorem dX1_setFirst_7 : decode cX1_setFirst 7 = .ok (.putfield 18, 3) := by decide +kernel
theorem dX1_setFirst_10 : decode cX1_setFirst 10 = .ok (.aload_n 0, 1) := by decide +kernel
theorem dX1_setFirst_11 : decode cX1_setFirst 11 = .ok (.iconst 3, 1) := by decide +kernel
theorem dX1_setFirst_12 : decode cX1_setFirst 12 = .ok (.putfield 21, 3) := by decide +kernel
theorem dX1_setFirst_15 : decode cX1_setFirst 15 = .ok (.aload_n 0, 1) := by decide +kernel
theorem dX1_setFirst_16 : decode cX1_setFirst 16 = .ok (.iconst 1, 1) := by decide +kernel
theorem dX1_setFirst_17 : decode cX1_setFirst 17 = .ok (.putfield 24, 3) := by decide +kernel
theorem dX1_setFirst_20 : decode cX1_setFirst 20 = .ok (.aload_n 0, 1) := by decide +kernel
theorem dX1_setFirst_21 : decode cX1_setFirst 21 = .ok (.iconst 2, 1) := by decide +kernel
theorem dX1_setFirst_22 : decode cX1_setFirst 22 = .ok (.putfield 27, 3) := by decide +kernel
theorem dX1_setFirst_25 : decode cX1_setFirst 25 = .ok (.return_, 1) := by decide +kernel
theorem dX1_copy_0 : decode cX1_copy 0 = .ok (.aload_n 0, 1) := by decide +kernel
theorem dX1_copy_1 : decode cX1_copy 1 = .ok (.aload_n 1, 1) := by decide +kernel
theorem dX1_copy_2 : decode cX1_copy 2 = .ok (.getfield 14, 3) := by decide +kernel
theorem dX1_copy_5 : decode cX1_copy 5 = .ok (.putfield 14, 3) := by decide +kernel
theorem dX1_copy_8 : decode cX1_copy 8 = .ok (.aload_n 0, 1) := by decide +kernel
theorem dX1_copy_9 : decode cX1_copy 9 = .ok (.aload_n 1, 1) := by decide +kernel
theorem dX1_copy_10 : decode cX1_copy 10 = .ok (.getfield 18, 3) := by decide +kernel
theorem dX1_copy_13 : decode cX1_copy 13 = .ok (.putfield 18, 3) := by decide +kernel
theorem dX1_copy_16 : decode cX1_copy 16 = .ok (.aload_n 0, 1) := by decide +kernel
theorem dX1_copy_17 : decode cX1_copy 17 = .ok (.aload_n 1, 1) := by decide +kernel
theorem dX1_copy_18 : decode cX1_copy 18 = .ok (.getfield 21, 3) := by decide +kernel
theorem dX1_copy_21 : decode cX1_copy 21 = .ok (.putfield 21, 3) := by decide +kernel
theorem dX1_copy_24 : decode cX1_copy 24 = .ok (.aload_n 0, 1) := by decide +kernel
theorem dX1_copy_25 : decode cX1_copy 25 = .ok (.aload_n 1, 1) := by decide +kernel
theorem dX1_copy_26 : decode cX1_copy 26 = .ok (.getfield 24, 3) := by decide +kernel
theorem dX1_copy_29 : decode cX1_copy 29 = .ok (.putfield 24, 3) := by decide +kernel
theorem dX1_copy_32 : decode cX1_copy 32 = .ok (.aload_n 0, 1) := by decide +kernel
theorem dX1_copy_33 : decode cX1_copy 33 = .ok (.aload_n 1, 1) := by decide +kernel
theorem dX1_copy_34 : decode cX1_copy 34 = .ok (.getfield 27, 3) := by decide +kernel
theorem dX1_copy_37 : decode cX1_copy 37 = .ok (.putfield 27, 3) := by decide +kernel
theorem dX1_copy_40 : decode cX1_copy 40 = .ok (.return_, 1) := by decide +kernel
theorem dX1_tagCount_0 : decode cX1_tagCount 0 = .ok (.iconst 1, 1) := by decide +kernel
theorem dX1_tagCount_1 : decode cX1_tagCount 1 = .ok (.aload_n 0, 1) := by decide +kernel
theorem dX1_tagCount_2 : decode cX1_tagCount 2 = .ok (.getfield 24, 3) := by decide +kernel
theorem dX1_tagCount_5 : decode cX1_tagCount 5 = .ok (.ishl, 1) := by decide +kernel
theorem dX1_tagCount_6 : decode cX1_tagCount 6 = .ok (.ireturn, 1) := by decide +kernel
theorem dX1_wordCount_0 : decode cX1_wordCount 0 = .ok (.iconst 1, 1) := by decide +kernel
theorem dX1_wordCount_1 : decode cX1_wordCount 1 = .ok (.aload_n 0, 1) := by decide +kernel
theorem dX1_wordCount_2 : decode cX1_wordCount 2 = .ok (.getfield 27, 3) := by decide +kernel
theorem dX1_wordCount_5 : decode cX1_wordCount 5 = .ok (.ishl, 1) := by decide +kernel
theorem dX1_wordCount_6 : decode cX1_wordCount 6 = .ok (.ireturn, 1) := by decide +kernel
theorem dX1_stateCount_0 : decode cX1_stateCount 0 = .ok (.aload_n 0, 1) := by decide +kernel
theorem dX1_stateCount_1 : decode cX1_stateCount 1 = .ok (.getfield 14, 3) := by decide +kernel
theorem dX1_stateCount_4 : decode cX1_stateCount 4 = .ok (.lookupswitch 44 #[(0, 28), (1, 35)], 28) := by decide +kernel
theorem dX1_stateCount_32 : decode cX1_stateCount 32 = .ok (.aload_n 0, 1) := by decide +kernel
theorem dX1_stateCount_33 : decode cX1_stateCount 33 = .ok (.getfield 21, 3) := by decide +kernel
theorem dX1_stateCount_36 : decode cX1_stateCount 36 = .ok (.iconst 1, 1) := by decide +kernel
theorem dX1_stateCount_37 : decode cX1_stateCount 37 = .ok (.iadd, 1) := by decide +kernel
theorem dX1_stateCount_38 : decode cX1_stateCount 38 = .ok (.ireturn, 1) := by decide +kernel
theorem dX1_stateCount_39 : decode cX1_stateCount 39 = .ok (.iconst 2, 1) := by decide +kernel
theorem dX1_stateCount_40 : decode cX1_stateCount 40 = .ok (.aload_n 0, 1) := by decide +kernel
theorem dX1_stateCount_41 : decode cX1_stateCount 41 = .ok (.getfield 18, 3) := by decide +kernel
theorem dX1_stateCount_44 : decode cX1_stateCount 44 = .ok (.imul, 1) := by decide +kernel
theorem dX1_stateCount_45 : decode cX1_stateCount 45 = .ok (.iconst 1, 1) := by decide +kernel
theorem dX1_stateCount_46 : decode cX1_stateCount 46 = .ok (.iadd, 1) := by decide +kernel
theorem dX1_stateCount_47 : decode cX1_stateCount 47 = .ok (.ireturn, 1) := by decide +kernel
theorem dX1_stateCount_48 : decode cX1_stateCount 48 = .ok (.aload_n 0, 1) := by decide +kernel
theorem dX1_stateCount_49 : decode cX1_stateCount 49 = .ok (.getfield 21, 3) := by decide +kernel
theorem dX1_stateCount_52 : decode cX1_stateCount 52 = .ok (.ireturn, 1) := by decide +kernel
theorem dX1_start_0 : decode cX1_start 0 = .ok (.aload_n 0, 1) := by decide +kernel
theorem dX1_start_1 : decode cX1_start 1 = .ok (.getfield 14, 3) := by decide +kernel
theorem dX1_start_4 : decode cX1_start 4 = .ok (.iconst 1, 1) := by decide +kernel
theorem dX1_start_5 : decode cX1_start 5 = .ok (.if_icmp .ne 10, 3) := by decide +kernel
theorem dX1_start_8 : decode cX1_start 8 = .ok (.aload_n 0, 1) := by decide +kernel
theorem dX1_start_9 : decode cX1_start 9 = .ok (.getfield 18, 3) := by decide +kernel
theorem dX1_start_12 : decode cX1_start 12 = .ok (.goto 4, 3) := by decide +kernel
theorem dX1_start_15 : decode cX1_start 15 = .ok (.iconst 0, 1) := by decide +kernel
theorem dX1_start_16 : decode cX1_start 16 = .ok (.ireturn, 1) := by decide +kernel
theorem dX1_lead_0 : decode cX1_lead 0 = .ok (.aload_n 0, 1) := by decide +kernel
theorem dX1_lead_1 : decode cX1_lead 1 = .ok (.getfield 14, 3) := by decide +kernel
theorem dX1_lead_4 : decode cX1_lead 4 = .ok (.lookupswitch 42 #[(0, 28), (1, 35)], 28) := by decide +kernel
theorem dX1_lead_32 : decode cX1_lead 32 = .ok (.aload_n 0, 1) := by decide +kernel
theorem dX1_lead_33 : decode cX1_lead 33 = .ok (.iload_n 1, 1) := by decide +kernel
theorem dX1_lead_34 : decode cX1_lead 34 = .ok (.iload_n 2, 1) := by decide +kernel
theorem dX1_lead_35 : decode cX1_lead 35 = .ok (.invokevirtual 30, 3) := by decide +kernel
theorem dX1_lead_38 : decode cX1_lead 38 = .ok (.ireturn, 1) := by decide +kernel
theorem dX1_lead_39 : decode cX1_lead 39 = .ok (.aload_n 0, 1) := by decide +kernel
theorem dX1_lead_40 : decode cX1_lead 40 = .ok (.iload_n 1, 1) := by decide +kernel
theorem dX1_lead_41 : decode cX1_lead 41 = .ok (.iload_n 2, 1) := by decide +kernel
theorem dX1_lead_42 : decode cX1_lead 42 = .ok (.invokevirtual 34, 3) := by decide +kernel
theorem dX1_lead_45 : decode cX1_lead 45 = .ok (.ireturn, 1) := by decide +kernel
theorem dX1_lead_46 : decode cX1_lead 46 = .ok (.aload_n 0, 1) := by decide +kernel
theorem dX1_lead_47 : decode cX1_lead 47 = .ok (.iload_n 1, 1) := by decide +kernel
theorem dX1_lead_48 : decode cX1_lead 48 = .ok (.iload_n 2, 1) := by decide +kernel
theorem dX1_lead_49 : decode cX1_lead 49 = .ok (.invokevirtual 37, 3) := by decide +kernel
theorem dX1_lead_52 : decode cX1_lead 52 = .ok (.ireturn, 1) := by decide +kernel
theorem dX1_leadOfRuns_0 : decode cX1_leadOfRuns 0 = .ok (.iload_n 2, 1) := by decide +kernel
theorem dX1_leadOfRuns_1 : decode cX1_leadOfRuns 1 = .ok (.ifCond .ne 20, 3) := by decide +kernel
theorem dX1_leadOfRuns_4 : decode cX1_leadOfRuns 4 = .ok (.iload_n 1, 1) := by decide +kernel
theorem dX1_leadOfRuns_5 : decode cX1_leadOfRuns 5 = .ok (.aload_n 0, 1) := by decide +kernel
theorem dX1_leadOfRuns_6 : decode cX1_leadOfRuns 6 = .ok (.getfield 21, 3) := by decide +kernel
theorem dX1_leadOfRuns_9 : decode cX1_leadOfRuns 9 = .ok (.if_icmp .ge 9, 3) := by decide +kernel
theorem dX1_leadOfRuns_12 : decode cX1_leadOfRuns 12 = .ok (.iload_n 1, 1) := by decide +kernel
theorem dX1_leadOfRuns_13 : decode cX1_leadOfRuns 13 = .ok (.iconst 1, 1) := by decide +kernel
theorem dX1_leadOfRuns_14 : decode cX1_leadOfRuns 14 = .ok (.iadd, 1) := by decide +kernel
theorem dX1_leadOfRuns_15 : decode cX1_leadOfRuns 15 = .ok (.goto 5, 3) := by decide +kernel
theorem dX1_leadOfRuns_18 : decode cX1_leadOfRuns 18 = .ok (.bipush (-9), 2) := by decide +kernel
theorem dX1_leadOfRuns_20 : decode cX1_leadOfRuns 20 = .ok (.ireturn, 1) := by decide +kernel
theorem dX1_leadOfRuns_21 : decode cX1_leadOfRuns 21 = .ok (.iload_n 1, 1) := by decide +kernel
theorem dX1_leadOfRuns_22 : decode cX1_leadOfRuns 22 = .ok (.aload_n 0, 1) := by decide +kernel
theorem dX1_leadOfRuns_23 : decode cX1_leadOfRuns 23 = .ok (.getfield 18, 3) := by decide +kernel
theorem dX1_leadOfRuns_26 : decode cX1_leadOfRuns 26 = .ok (.if_icmp .lt 7, 3) := by decide +kernel
theorem dX1_leadOfRuns_29 : decode cX1_leadOfRuns 29 = .ok (.iconst 0, 1) := by decide +kernel
theorem dX1_leadOfRuns_30 : decode cX1_leadOfRuns 30 = .ok (.goto 5, 3) := by decide +kernel
theorem dX1_leadOfRuns_33 : decode cX1_leadOfRuns 33 = .ok (.bipush (-9), 2) := by decide +kernel
theorem dX1_leadOfRuns_35 : decode cX1_leadOfRuns 35 = .ok (.ireturn, 1) := by decide +kernel
theorem dX1_leadOfCharge_0 : decode cX1_leadOfCharge 0 = .ok (.iload_n 2, 1) := by decide +kernel
theorem dX1_leadOfCharge_1 : decode cX1_leadOfCharge 1 = .ok (.iconst 1, 1) := by decide +kernel
theorem dX1_leadOfCharge_2 : decode cX1_leadOfCharge 2 = .ok (.if_icmp .ne 9, 3) := by decide +kernel
theorem dX1_leadOfCharge_5 : decode cX1_leadOfCharge 5 = .ok (.iload_n 1, 1) := by decide +kernel
theorem dX1_leadOfCharge_6 : decode cX1_leadOfCharge 6 = .ok (.iconst 1, 1) := by decide +kernel
theorem dX1_leadOfCharge_7 : decode cX1_leadOfCharge 7 = .ok (.iadd, 1) := by decide +kernel
theorem dX1_leadOfCharge_8 : decode cX1_leadOfCharge 8 = .ok (.goto 6, 3) := by decide +kernel
theorem dX1_leadOfCharge_11 : decode cX1_leadOfCharge 11 = .ok (.iload_n 1, 1) := by decide +kernel
theorem dX1_leadOfCharge_12 : decode cX1_leadOfCharge 12 = .ok (.iconst 1, 1) := by decide +kernel
theorem dX1_leadOfCharge_13 : decode cX1_leadOfCharge 13 = .ok (.isub, 1) := by decide +kernel
theorem dX1_leadOfCharge_14 : decode cX1_leadOfCharge 14 = .ok (.istore_n 3, 1) := by decide +kernel
theorem dX1_leadOfCharge_15 : decode cX1_leadOfCharge 15 = .ok (.iload_n 3, 1) := by decide +kernel
theorem dX1_leadOfCharge_16 : decode cX1_leadOfCharge 16 = .ok (.ifCond .lt 13, 3) := by decide +kernel
theorem dX1_leadOfCharge_19 : decode cX1_leadOfCharge 19 = .ok (.iload_n 3, 1) := by decide +kernel
theorem dX1_leadOfCharge_20 : decode cX1_leadOfCharge 20 = .ok (.iconst 2, 1) := by decide +kernel
theorem dX1_leadOfCharge_21 : decode cX1_leadOfCharge 21 = .ok (.aload_n 0, 1) := by decide +kernel
theorem dX1_leadOfCharge_22 : decode cX1_leadOfCharge 22 = .ok (.getfield 18, 3) := by decide +kernel
theorem dX1_leadOfCharge_25 : decode cX1_leadOfCharge 25 = .ok (.imul, 1) := by decide +kernel
theorem dX1_leadOfCharge_26 : decode cX1_leadOfCharge 26 = .ok (.if_icmp .le 8, 3) := by decide +kernel
theorem dX1_leadOfCharge_29 : decode cX1_leadOfCharge 29 = .ok (.bipush (-9), 2) := by decide +kernel
theorem dX1_leadOfCharge_31 : decode cX1_leadOfCharge 31 = .ok (.goto 4, 3) := by decide +kernel
theorem dX1_leadOfCharge_34 : decode cX1_leadOfCharge 34 = .ok (.iload_n 3, 1) := by decide +kernel
theorem dX1_leadOfCharge_35 : decode cX1_leadOfCharge 35 = .ok (.ireturn, 1) := by decide +kernel
theorem dX1_leadOfWord_0 : decode cX1_leadOfWord 0 = .ok (.aload_n 0, 1) := by decide +kernel
theorem dX1_leadOfWord_1 : decode cX1_leadOfWord 1 = .ok (.iload_n 1, 1) := by decide +kernel
theorem dX1_leadOfWord_2 : decode cX1_leadOfWord 2 = .ok (.invokevirtual 40, 3) := by decide +kernel
theorem dX1_leadOfWord_5 : decode cX1_leadOfWord 5 = .ok (.iconst 1, 1) := by decide +kernel
theorem dX1_leadOfWord_6 : decode cX1_leadOfWord 6 = .ok (.ishl, 1) := by decide +kernel
theorem dX1_leadOfWord_7 : decode cX1_leadOfWord 7 = .ok (.iload_n 2, 1) := by decide +kernel
theorem dX1_leadOfWord_8 : decode cX1_leadOfWord 8 = .ok (.ior, 1) := by decide +kernel
theorem dX1_leadOfWord_9 : decode cX1_leadOfWord 9 = .ok (.istore_n 3, 1) := by decide +kernel
theorem dX1_leadOfWord_10 : decode cX1_leadOfWord 10 = .ok (.iload_n 1, 1) := by decide +kernel
theorem dX1_leadOfWord_11 : decode cX1_leadOfWord 11 = .ok (.iconst 1, 1) := by decide +kernel
theorem dX1_leadOfWord_12 : decode cX1_leadOfWord 12 = .ok (.iadd, 1) := by decide +kernel
theorem dX1_leadOfWord_13 : decode cX1_leadOfWord 13 = .ok (.istore 4, 2) := by decide +kernel
theorem dX1_leadOfWord_15 : decode cX1_leadOfWord 15 = .ok (.iload 4, 2) := by decide +kernel
theorem dX1_leadOfWord_17 : decode cX1_leadOfWord 17 = .ok (.ifCond .le 47, 3) := by decide +kernel
theorem dX1_leadOfWord_20 : decode cX1_leadOfWord 20 = .ok (.iload_n 3, 1) := by decide +kernel
theorem dX1_leadOfWord_21 : decode cX1_leadOfWord 21 = .ok (.iconst 1, 1) := by decide +kernel
theorem dX1_leadOfWord_22 : decode cX1_leadOfWord 22 = .ok (.iload 4, 2) := by decide +kernel
theorem dX1_leadOfWord_24 : decode cX1_leadOfWord 24 = .ok (.ishl, 1) := by decide +kernel
theorem dX1_leadOfWord_25 : decode cX1_leadOfWord 25 = .ok (.iconst 1, 1) := by decide +kernel
theorem dX1_leadOfWord_26 : decode cX1_leadOfWord 26 = .ok (.isub, 1) := by decide +kernel
theorem dX1_leadOfWord_27 : decode cX1_leadOfWord 27 = .ok (.iand, 1) := by decide +kernel
theorem dX1_leadOfWord_28 : decode cX1_leadOfWord 28 = .ok (.istore 5, 2) := by decide +kernel
theorem dX1_leadOfWord_30 : decode cX1_leadOfWord 30 = .ok (.iload 5, 2) := by decide +kernel
theorem dX1_leadOfWord_32 : decode cX1_leadOfWord 32 = .ok (.aload_n 0, 1) := by decide +kernel
theorem dX1_leadOfWord_33 : decode cX1_leadOfWord 33 = .ok (.iload 4, 2) := by decide +kernel
theorem dX1_leadOfWord_35 : decode cX1_leadOfWord 35 = .ok (.invokevirtual 40, 3) := by decide +kernel
theorem dX1_leadOfWord_38 : decode cX1_leadOfWord 38 = .ok (.if_icmp .ne 20, 3) := by decide +kernel
theorem dX1_leadOfWord_41 : decode cX1_leadOfWord 41 = .ok (.iload 4, 2) := by decide +kernel
theorem dX1_leadOfWord_43 : decode cX1_leadOfWord 43 = .ok (.aload_n 0, 1) := by decide +kernel
theorem dX1_leadOfWord_44 : decode cX1_leadOfWord 44 = .ok (.getfield 21, 3) := by decide +kernel
theorem dX1_leadOfWord_47 : decode cX1_leadOfWord 47 = .ok (.if_icmp .ne 8, 3) := by decide +kernel
theorem dX1_leadOfWord_50 : decode cX1_leadOfWord 50 = .ok (.bipush (-9), 2) := by decide +kernel
theorem dX1_leadOfWord_52 : decode cX1_leadOfWord 52 = .ok (.goto 5, 3) := by decide +kernel
theorem dX1_leadOfWord_55 : decode cX1_leadOfWord 55 = .ok (.iload 4, 2) := by decide +kernel
theorem dX1_leadOfWord_57 : decode cX1_leadOfWord 57 = .ok (.ireturn, 1) := by decide +kernel
theorem dX1_leadOfWord_58 : decode cX1_leadOfWord 58 = .ok (.iinc 4 (-1), 3) := by decide +kernel
theorem dX1_leadOfWord_61 : decode cX1_leadOfWord 61 = .ok (.goto (-46), 3) := by decide +kernel
theorem dX1_leadOfWord_64 : decode cX1_leadOfWord 64 = .ok (.iconst 0, 1) := by decide +kernel
theorem dX1_leadOfWord_65 : decode cX1_leadOfWord 65 = .ok (.ireturn, 1) := by decide +kernel
theorem dX1_firstBits_0 : decode cX1_firstBits 0 = .ok (.aload_n 0, 1) := by decide +kernel
theorem dX1_firstBits_1 : decode cX1_firstBits 1 = .ok (.getfield 18, 3) := by decide +kernel
theorem dX1_firstBits_4 : decode cX1_firstBits 4 = .ok (.aload_n 0, 1) := by decide +kernel
theorem dX1_firstBits_5 : decode cX1_firstBits 5 = .ok (.getfield 21, 3) := by decide +kernel
theorem dX1_firstBits_8 : decode cX1_firstBits 8 = .ok (.iload_n 1, 1) := by decide +kernel
theorem dX1_firstBits_9 : decode cX1_firstBits 9 = .ok (.isub, 1) := by decide +kernel
theorem dX1_firstBits_10 : decode cX1_firstBits 10 = .ok (.ishr, 1) := by decide +kernel
theorem dX1_firstBits_11 : decode cX1_firstBits 11 = .ok (.ireturn, 1) := by decide +kernel
theorem dX2_init_0 : decode cX2_init 0 = .ok (.aload_n 0, 1) := by decide +kernel
theorem dX2_init_1 : decode cX2_init 1 = .ok (.invokespecial 1, 3) := by decide +kernel
theorem dX2_init_4 : decode cX2_init 4 = .ok (.aload_n 0, 1) := by decide +kernel
theorem dX2_init_5 : decode cX2_init 5 = .ok (.new 7, 3) := by decide +kernel
theorem dX2_init_8 : decode cX2_init 8 = .ok (.dup, 1) := by decide +kernel
theorem dX2_init_9 : decode cX2_init 9 = .ok (.invokespecial 9, 3) := by decide +kernel
theorem dX2_init_12 : decode cX2_init 12 = .ok (.putfield 10, 3) := by decide +kernel
theorem dX2_init_15 : decode cX2_init 15 = .ok (.aload_n 0, 1) := by decide +kernel
theorem dX2_init_16 : decode cX2_init 16 = .ok (.new 16, 3) := by decide +kernel
theorem dX2_init_19 : decode cX2_init 19 = .ok (.dup, 1) := by decide +kernel
theorem dX2_init_20 : decode cX2_init 20 = .ok (.invokespecial 18, 3) := by decide +kernel
theorem dX2_init_23 : decode cX2_init 23 = .ok (.putfield 19, 3) := by decide +kernel
theorem dX2_init_26 : decode cX2_init 26 = .ok (.return_, 1) := by decide +kernel
theorem dX2_copy_0 : decode cX2_copy 0 = .ok (.aload_n 0, 1) := by decide +kernel
theorem dX2_copy_1 : decode cX2_copy 1 = .ok (.getfield 10, 3) := by decide +kernel
theorem dX2_copy_4 : decode cX2_copy 4 = .ok (.aload_n 1, 1) := by decide +kernel
theorem dX2_copy_5 : decode cX2_copy 5 = .ok (.getfield 10, 3) := by decide +kernel
theorem dX2_copy_8 : decode cX2_copy 8 = .ok (.invokevirtual 23, 3) := by decide +kernel
theorem dX2_copy_11 : decode cX2_copy 11 = .ok (.aload_n 0, 1) := by decide +kernel
theorem dX2_copy_12 : decode cX2_copy 12 = .ok (.getfield 19, 3) := by decide +kernel
theorem dX2_copy_15 : decode cX2_copy 15 = .ok (.aload_n 1, 1) := by decide +kernel
theorem dX2_copy_16 : decode cX2_copy 16 = .ok (.getfield 19, 3) := by decide +kernel
theorem dX2_copy_19 : decode cX2_copy 19 = .ok (.invokevirtual 27, 3) := by decide +kernel
theorem dX2_copy_22 : decode cX2_copy 22 = .ok (.return_, 1) := by decide +kernel
theorem dX3_init_0 : decode cX3_init 0 = .ok (.aload_n 0, 1) := by decide +kernel
theorem dX3_init_1 : decode cX3_init 1 = .ok (.invokespecial 3, 3) := by decide +kernel
theorem dX3_init_4 : decode cX3_init 4 = .ok (.aload_n 0, 1) := by decide +kernel
theorem dX3_init_5 : decode cX3_init 5 = .ok (.bipush 24, 2) := by decide +kernel
theorem dX3_init_7 : decode cX3_init 7 = .ok (.newarray .int, 2) := by decide +kernel
theorem dX3_init_9 : decode cX3_init 9 = .ok (.putfield 9, 3) := by decide +kernel
theorem dX3_init_12 : decode cX3_init 12 = .ok (.aload_n 0, 1) := by decide +kernel
theorem dX3_init_13 : decode cX3_init 13 = .ok (.bipush 24, 2) := by decide +kernel
theorem dX3_init_15 : decode cX3_init 15 = .ok (.newarray .int, 2) := by decide +kernel
theorem dX3_init_17 : decode cX3_init 17 = .ok (.putfield 15, 3) := by decide +kernel
theorem dX3_init_20 : decode cX3_init 20 = .ok (.aload_n 0, 1) := by decide +kernel
theorem dX3_init_21 : decode cX3_init 21 = .ok (.bipush 24, 2) := by decide +kernel
theorem dX3_init_23 : decode cX3_init 23 = .ok (.newarray .int, 2) := by decide +kernel
theorem dX3_init_25 : decode cX3_init 25 = .ok (.putfield 18, 3) := by decide +kernel
theorem dX3_init_28 : decode cX3_init 28 = .ok (.aload_n 0, 1) := by decide +kernel
theorem dX3_init_29 : decode cX3_init 29 = .ok (.iconst 0, 1) := by decide +kernel
theorem dX3_init_30 : decode cX3_init 30 = .ok (.putfield 21, 3) := by decide +kernel
theorem dX3_init_33 : decode cX3_init 33 = .ok (.aload_n 0, 1) := by decide +kernel
theorem dX3_init_34 : decode cX3_init 34 = .ok (.bipush (-9), 2) := by decide +kernel
theorem dX3_init_36 : decode cX3_init 36 = .ok (.putfield 25, 3) := by decide +kernel
theorem dX3_init_39 : decode cX3_init 39 = .ok (.return_, 1) := by decide +kernel
theorem dX3_empty_0 : decode cX3_empty 0 = .ok (.aload_n 0, 1) := by decide +kernel
theorem dX3_empty_1 : decode cX3_empty 1 = .ok (.iconst 0, 1) := by decide +kernel
theorem dX3_empty_2 : decode cX3_empty 2 = .ok (.putfield 21, 3) := by decide +kernel
theorem dX3_empty_5 : decode cX3_empty 5 = .ok (.aload_n 0, 1) := by decide +kernel
theorem dX3_empty_6 : decode cX3_empty 6 = .ok (.iload_n 1, 1) := by decide +kernel
theorem dX3_empty_7 : decode cX3_empty 7 = .ok (.putfield 25, 3) := by decide +kernel
theorem dX3_empty_10 : decode cX3_empty 10 = .ok (.return_, 1) := by decide +kernel
theorem dX3_copy_0 : decode cX3_copy 0 = .ok (.aload_n 1, 1) := by decide +kernel
theorem dX3_copy_1 : decode cX3_copy 1 = .ok (.getfield 9, 3) := by decide +kernel
theorem dX3_copy_4 : decode cX3_copy 4 = .ok (.iconst 0, 1) := by decide +kernel
theorem dX3_copy_5 : decode cX3_copy 5 = .ok (.aload_n 0, 1) := by decide +kernel
theorem dX3_copy_6 : decode cX3_copy 6 = .ok (.getfield 9, 3) := by decide +kernel
theorem dX3_copy_9 : decode cX3_copy 9 = .ok (.iconst 0, 1) := by decide +kernel
theorem dX3_copy_10 : decode cX3_copy 10 = .ok (.bipush 24, 2) := by decide +kernel
theorem dX3_copy_12 : decode cX3_copy 12 = .ok (.invokestatic 28, 3) := by decide +kernel
theorem dX3_copy_15 : decode cX3_copy 15 = .ok (.aload_n 1, 1) := by decide +kernel
theorem dX3_copy_16 : decode cX3_copy 16 = .ok (.getfield 15, 3) := by decide +kernel
theorem dX3_copy_19 : decode cX3_copy 19 = .ok (.iconst 0, 1) := by decide +kernel
theorem dX3_copy_20 : decode cX3_copy 20 = .ok (.aload_n 0, 1) := by decide +kernel
theorem dX3_copy_21 : decode cX3_copy 21 = .ok (.getfield 15, 3) := by decide +kernel
theorem dX3_copy_24 : decode cX3_copy 24 = .ok (.iconst 0, 1) := by decide +kernel
theorem dX3_copy_25 : decode cX3_copy 25 = .ok (.bipush 24, 2) := by decide +kernel
theorem dX3_copy_27 : decode cX3_copy 27 = .ok (.invokestatic 28, 3) := by decide +kernel
theorem dX3_copy_30 : decode cX3_copy 30 = .ok (.aload_n 1, 1) := by decide +kernel
theorem dX3_copy_31 : decode cX3_copy 31 = .ok (.getfield 18, 3) := by decide +kernel
theorem dX3_copy_34 : decode cX3_copy 34 = .ok (.iconst 0, 1) := by decide +kernel
theorem dX3_copy_35 : decode cX3_copy 35 = .ok (.aload_n 0, 1) := by decide +kernel
theorem dX3_copy_36 : decode cX3_copy 36 = .ok (.getfield 18, 3) := by decide +kernel
theorem dX3_copy_39 : decode cX3_copy 39 = .ok (.iconst 0, 1) := by decide +kernel
theorem dX3_copy_40 : decode cX3_copy 40 = .ok (.bipush 24, 2) := by decide +kernel
theorem dX3_copy_42 : decode cX3_copy 42 = .ok (.invokestatic 28, 3) := by decide +kernel
theorem dX3_copy_45 : decode cX3_copy 45 = .ok (.aload_n 0, 1) := by decide +kernel
theorem dX3_copy_46 : decode cX3_copy 46 = .ok (.aload_n 1, 1) := by decide +kernel
theorem dX3_copy_47 : decode cX3_copy 47 = .ok (.getfield 21, 3) := by decide +kernel
theorem dX3_copy_50 : decode cX3_copy 50 = .ok (.putfield 21, 3) := by decide +kernel
theorem dX3_copy_53 : decode cX3_copy 53 = .ok (.aload_n 0, 1) := by decide +kernel
theorem dX3_copy_54 : decode cX3_copy 54 = .ok (.aload_n 1, 1) := by decide +kernel
theorem dX3_copy_55 : decode cX3_copy 55 = .ok (.getfield 25, 3) := by decide +kernel
theorem dX3_copy_58 : decode cX3_copy 58 = .ok (.putfield 25, 3) := by decide +kernel
theorem dX3_copy_61 : decode cX3_copy 61 = .ok (.return_, 1) := by decide +kernel
theorem dX3_append_0 : decode cX3_append 0 = .ok (.aload_n 0, 1) := by decide +kernel
theorem dX3_append_1 : decode cX3_append 1 = .ok (.getfield 21, 3) := by decide +kernel
theorem dX3_append_4 : decode cX3_append 4 = .ok (.ifCond .lt 12, 3) := by decide +kernel
theorem dX3_append_7 : decode cX3_append 7 = .ok (.aload_n 0, 1) := by decide +kernel
theorem dX3_append_8 : decode cX3_append 8 = .ok (.getfield 21, 3) := by decide +kernel
theorem dX3_append_11 : decode cX3_append 11 = .ok (.bipush 24, 2) := by decide +kernel
theorem dX3_append_13 : decode cX3_append 13 = .ok (.if_icmp .lt 4, 3) := by decide +kernel
theorem dX3_append_16 : decode cX3_append 16 = .ok (.return_, 1) := by decide +kernel
theorem dX3_append_17 : decode cX3_append 17 = .ok (.aload_n 0, 1) := by decide +kernel
theorem dX3_append_18 : decode cX3_append 18 = .ok (.getfield 9, 3) := by decide +kernel
theorem dX3_append_21 : decode cX3_append 21 = .ok (.aload_n 0, 1) := by decide +kernel
theorem dX3_append_22 : decode cX3_append 22 = .ok (.getfield 21, 3) := by decide +kernel
theorem dX3_append_25 : decode cX3_append 25 = .ok (.iload_n 1, 1) := by decide +kernel
theorem dX3_append_26 : decode cX3_append 26 = .ok (.iastore, 1) := by decide +kernel
theorem dX3_append_27 : decode cX3_append 27 = .ok (.aload_n 0, 1) := by decide +kernel
theorem dX3_append_28 : decode cX3_append 28 = .ok (.getfield 15, 3) := by decide +kernel
theorem dX3_append_31 : decode cX3_append 31 = .ok (.aload_n 0, 1) := by decide +kernel
theorem dX3_append_32 : decode cX3_append 32 = .ok (.getfield 21, 3) := by decide +kernel
theorem dX3_append_35 : decode cX3_append 35 = .ok (.iload_n 1, 1) := by decide +kernel
theorem dX3_append_36 : decode cX3_append 36 = .ok (.iastore, 1) := by decide +kernel
theorem dX3_append_37 : decode cX3_append 37 = .ok (.aload_n 0, 1) := by decide +kernel
theorem dX3_append_38 : decode cX3_append 38 = .ok (.getfield 18, 3) := by decide +kernel
theorem dX3_append_41 : decode cX3_append 41 = .ok (.aload_n 0, 1) := by decide +kernel
theorem dX3_append_42 : decode cX3_append 42 = .ok (.getfield 21, 3) := by decide +kernel
theorem dX3_append_45 : decode cX3_append 45 = .ok (.iload_n 2, 1) := by decide +kernel
theorem dX3_append_46 : decode cX3_append 46 = .ok (.iastore, 1) := by decide +kernel
theorem dX3_append_47 : decode cX3_append 47 = .ok (.aload_n 0, 1) := by decide +kernel
theorem dX3_append_48 : decode cX3_append 48 = .ok (.dup, 1) := by decide +kernel
theorem dX3_append_49 : decode cX3_append 49 = .ok (.getfield 21, 3) := by decide +kernel
theorem dX3_append_52 : decode cX3_append 52 = .ok (.iconst 1, 1) := by decide +kernel
theorem dX3_append_53 : decode cX3_append 53 = .ok (.iadd, 1) := by decide +kernel
theorem dX3_append_54 : decode cX3_append 54 = .ok (.putfield 21, 3) := by decide +kernel
theorem dX3_append_57 : decode cX3_append 57 = .ok (.aload_n 0, 1) := by decide +kernel
theorem dX3_append_58 : decode cX3_append 58 = .ok (.iload_n 3, 1) := by decide +kernel
theorem dX3_append_59 : decode cX3_append 59 = .ok (.putfield 25, 3) := by decide +kernel
theorem dX3_append_62 : decode cX3_append 62 = .ok (.return_, 1) := by decide +kernel
theorem dX3_turn_0 : decode cX3_turn 0 = .ok (.iload_n 1, 1) := by decide +kernel
theorem dX3_turn_1 : decode cX3_turn 1 = .ok (.ifCond .lt 9, 3) := by decide +kernel
theorem dX3_turn_4 : decode cX3_turn 4 = .ok (.iload_n 1, 1) := by decide +kernel
theorem dX3_turn_5 : decode cX3_turn 5 = .ok (.bipush 24, 2) := by decide +kernel
theorem dX3_turn_7 : decode cX3_turn 7 = .ok (.if_icmp .lt 5, 3) := by decide +kernel
theorem dX3_turn_10 : decode cX3_turn 10 = .ok (.iconst (-1), 1) := by decide +kernel
theorem dX3_turn_11 : decode cX3_turn 11 = .ok (.ireturn, 1) := by decide +kernel
theorem dX3_turn_12 : decode cX3_turn 12 = .ok (.aload_n 0, 1) := by decide +kernel
theorem dX3_turn_13 : decode cX3_turn 13 = .ok (.getfield 9, 3) := by decide +kernel
theorem dX3_turn_16 : decode cX3_turn 16 = .ok (.iload_n 1, 1) := by decide +kernel
theorem dX3_turn_17 : decode cX3_turn 17 = .ok (.dup2, 1) := by decide +kernel
theorem dX3_turn_18 : decode cX3_turn 18 = .ok (.iaload, 1) := by decide +kernel
theorem dX3_turn_19 : decode cX3_turn 19 = .ok (.iconst 1, 1) := by decide +kernel
theorem dX3_turn_20 : decode cX3_turn 20 = .ok (.iload_n 2, 1) := by decide +kernel
theorem dX3_turn_21 : decode cX3_turn 21 = .ok (.ishl, 1) := by decide +kernel
theorem dX3_turn_22 : decode cX3_turn 22 = .ok (.ixor, 1) := by decide +kernel
theorem dX3_turn_23 : decode cX3_turn 23 = .ok (.iastore, 1) := by decide +kernel
theorem dX3_turn_24 : decode cX3_turn 24 = .ok (.aload_n 0, 1) := by decide +kernel
theorem dX3_turn_25 : decode cX3_turn 25 = .ok (.getfield 9, 3) := by decide +kernel
theorem dX3_turn_28 : decode cX3_turn 28 = .ok (.iload_n 1, 1) := by decide +kernel
theorem dX3_turn_29 : decode cX3_turn 29 = .ok (.iaload, 1) := by decide +kernel
theorem dX3_turn_30 : decode cX3_turn 30 = .ok (.iload_n 2, 1) := by decide +kernel
theorem dX3_turn_31 : decode cX3_turn 31 = .ok (.ishr, 1) := by decide +kernel
theorem dX3_turn_32 : decode cX3_turn 32 = .ok (.iconst 1, 1) := by decide +kernel
theorem dX3_turn_33 : decode cX3_turn 33 = .ok (.iand, 1) := by decide +kernel
theorem dX3_turn_34 : decode cX3_turn 34 = .ok (.ireturn, 1) := by decide +kernel
theorem dX3_wordAt_0 : decode cX3_wordAt 0 = .ok (.iload_n 1, 1) := by decide +kernel
theorem dX3_wordAt_1 : decode cX3_wordAt 1 = .ok (.ifCond .lt 9, 3) := by decide +kernel
theorem dX3_wordAt_4 : decode cX3_wordAt 4 = .ok (.iload_n 1, 1) := by decide +kernel
theorem dX3_wordAt_5 : decode cX3_wordAt 5 = .ok (.bipush 24, 2) := by decide +kernel
theorem dX3_wordAt_7 : decode cX3_wordAt 7 = .ok (.if_icmp .lt 8, 3) := by decide +kernel
theorem dX3_wordAt_10 : decode cX3_wordAt 10 = .ok (.bipush (-9), 2) := by decide +kernel
theorem dX3_wordAt_12 : decode cX3_wordAt 12 = .ok (.goto 9, 3) := by decide +kernel
theorem dX3_wordAt_15 : decode cX3_wordAt 15 = .ok (.aload_n 0, 1) := by decide +kernel
theorem dX3_wordAt_16 : decode cX3_wordAt 16 = .ok (.getfield 9, 3) := by decide +kernel
theorem dX3_wordAt_19 : decode cX3_wordAt 19 = .ok (.iload_n 1, 1) := by decide +kernel
theorem dX3_wordAt_20 : decode cX3_wordAt 20 = .ok (.iaload, 1) := by decide +kernel
theorem dX3_wordAt_21 : decode cX3_wordAt 21 = .ok (.ireturn, 1) := by decide +kernel
theorem dX3_tagAt_0 : decode cX3_tagAt 0 = .ok (.iload_n 1, 1) := by decide +kernel
theorem dX3_tagAt_1 : decode cX3_tagAt 1 = .ok (.ifCond .lt 9, 3) := by decide +kernel
theorem dX3_tagAt_4 : decode cX3_tagAt 4 = .ok (.iload_n 1, 1) := by decide +kernel
theorem dX3_tagAt_5 : decode cX3_tagAt 5 = .ok (.bipush 24, 2) := by decide +kernel
theorem dX3_tagAt_7 : decode cX3_tagAt 7 = .ok (.if_icmp .lt 8, 3) := by decide +kernel
theorem dX3_tagAt_10 : decode cX3_tagAt 10 = .ok (.bipush (-9), 2) := by decide +kernel
theorem dX3_tagAt_12 : decode cX3_tagAt 12 = .ok (.goto 9, 3) := by decide +kernel
theorem dX3_tagAt_15 : decode cX3_tagAt 15 = .ok (.aload_n 0, 1) := by decide +kernel
theorem dX3_tagAt_16 : decode cX3_tagAt 16 = .ok (.getfield 18, 3) := by decide +kernel
theorem dX3_tagAt_19 : decode cX3_tagAt 19 = .ok (.iload_n 1, 1) := by decide +kernel
theorem dX3_tagAt_20 : decode cX3_tagAt 20 = .ok (.iaload, 1) := by decide +kernel
theorem dX3_tagAt_21 : decode cX3_tagAt 21 = .ok (.ireturn, 1) := by decide +kernel
theorem dX3_turnedBits_0 : decode cX3_turnedBits 0 = .ok (.iconst 0, 1) := by decide +kernel
theorem dX3_turnedBits_1 : decode cX3_turnedBits 1 = .ok (.istore_n 1, 1) := by decide +kernel
theorem dX3_turnedBits_2 : decode cX3_turnedBits 2 = .ok (.iconst 0, 1) := by decide +kernel
theorem dX3_turnedBits_3 : decode cX3_turnedBits 3 = .ok (.istore_n 2, 1) := by decide +kernel
theorem dX3_turnedBits_4 : decode cX3_turnedBits 4 = .ok (.iload_n 2, 1) := by decide +kernel
theorem dX3_turnedBits_5 : decode cX3_turnedBits 5 = .ok (.aload_n 0, 1) := by decide +kernel
theorem dX3_turnedBits_6 : decode cX3_turnedBits 6 = .ok (.getfield 21, 3) := by decide +kernel
theorem dX3_turnedBits_9 : decode cX3_turnedBits 9 = .ok (.if_icmp .ge 34, 3) := by decide +kernel
theorem dX3_turnedBits_12 : decode cX3_turnedBits 12 = .ok (.iload_n 2, 1) := by decide +kernel
theorem dX3_turnedBits_13 : decode cX3_turnedBits 13 = .ok (.bipush 24, 2) := by decide +kernel
theorem dX3_turnedBits_15 : decode cX3_turnedBits 15 = .ok (.if_icmp .ge 28, 3) := by decide +kernel
theorem dX3_turnedBits_18 : decode cX3_turnedBits 18 = .ok (.iload_n 1, 1) := by decide +kernel
theorem dX3_turnedBits_19 : decode cX3_turnedBits 19 = .ok (.aload_n 0, 1) := by decide +kernel
theorem dX3_turnedBits_20 : decode cX3_turnedBits 20 = .ok (.getfield 9, 3) := by decide +kernel
theorem dX3_turnedBits_23 : decode cX3_turnedBits 23 = .ok (.iload_n 2, 1) := by decide +kernel
theorem dX3_turnedBits_24 : decode cX3_turnedBits 24 = .ok (.iaload, 1) := by decide +kernel
theorem dX3_turnedBits_25 : decode cX3_turnedBits 25 = .ok (.aload_n 0, 1) := by decide +kernel
theorem dX3_turnedBits_26 : decode cX3_turnedBits 26 = .ok (.getfield 15, 3) := by decide +kernel
theorem dX3_turnedBits_29 : decode cX3_turnedBits 29 = .ok (.iload_n 2, 1) := by decide +kernel
theorem dX3_turnedBits_30 : decode cX3_turnedBits 30 = .ok (.iaload, 1) := by decide +kernel
theorem dX3_turnedBits_31 : decode cX3_turnedBits 31 = .ok (.ixor, 1) := by decide +kernel
theorem dX3_turnedBits_32 : decode cX3_turnedBits 32 = .ok (.invokestatic 34, 3) := by decide +kernel
theorem dX3_turnedBits_35 : decode cX3_turnedBits 35 = .ok (.iadd, 1) := by decide +kernel
theorem dX3_turnedBits_36 : decode cX3_turnedBits 36 = .ok (.istore_n 1, 1) := by decide +kernel
theorem dX3_turnedBits_37 : decode cX3_turnedBits 37 = .ok (.iinc 2 1, 3) := by decide +kernel
theorem dX3_turnedBits_40 : decode cX3_turnedBits 40 = .ok (.goto (-36), 3) := by decide +kernel
theorem dX3_turnedBits_43 : decode cX3_turnedBits 43 = .ok (.iload_n 1, 1) := by decide +kernel
theorem dX3_turnedBits_44 : decode cX3_turnedBits 44 = .ok (.ireturn, 1) := by decide +kernel
theorem dX4_init_0 : decode cX4_init 0 = .ok (.aload_n 0, 1) := by decide +kernel
theorem dX4_init_1 : decode cX4_init 1 = .ok (.invokespecial 3, 3) := by decide +kernel
theorem dX4_init_4 : decode cX4_init 4 = .ok (.aload_n 0, 1) := by decide +kernel
theorem dX4_init_5 : decode cX4_init 5 = .ok (.bipush 7, 2) := by decide +kernel
theorem dX4_init_7 : decode cX4_init 7 = .ok (.newarray .int, 2) := by decide +kernel
theorem dX4_init_9 : decode cX4_init 9 = .ok (.putfield 9, 3) := by decide +kernel
theorem dX4_init_12 : decode cX4_init 12 = .ok (.aload_n 0, 1) := by decide +kernel
theorem dX4_init_13 : decode cX4_init 13 = .ok (.bipush 7, 2) := by decide +kernel
theorem dX4_init_15 : decode cX4_init 15 = .ok (.newarray .int, 2) := by decide +kernel
theorem dX4_init_17 : decode cX4_init 17 = .ok (.putfield 15, 3) := by decide +kernel
theorem dX4_init_20 : decode cX4_init 20 = .ok (.return_, 1) := by decide +kernel
theorem dX4_at_0 : decode cX4_at 0 = .ok (.iload_n 1, 1) := by decide +kernel
theorem dX4_at_1 : decode cX4_at 1 = .ok (.ifCond .lt 9, 3) := by decide +kernel
theorem dX4_at_4 : decode cX4_at 4 = .ok (.iload_n 1, 1) := by decide +kernel
theorem dX4_at_5 : decode cX4_at 5 = .ok (.bipush 7, 2) := by decide +kernel
theorem dX4_at_7 : decode cX4_at 7 = .ok (.if_icmp .lt 7, 3) := by decide +kernel
theorem dX4_at_10 : decode cX4_at 10 = .ok (.iconst 0, 1) := by decide +kernel
theorem dX4_at_11 : decode cX4_at 11 = .ok (.goto 9, 3) := by decide +kernel
theorem dX4_at_14 : decode cX4_at 14 = .ok (.aload_n 0, 1) := by decide +kernel
theorem dX4_at_15 : decode cX4_at 15 = .ok (.getfield 9, 3) := by decide +kernel
theorem dX4_at_18 : decode cX4_at 18 = .ok (.iload_n 1, 1) := by decide +kernel
theorem dX4_at_19 : decode cX4_at 19 = .ok (.iaload, 1) := by decide +kernel
theorem dX4_at_20 : decode cX4_at 20 = .ok (.ireturn, 1) := by decide +kernel
theorem dX4_countRows_0 : decode cX4_countRows 0 = .ok (.aload_n 0, 1) := by decide +kernel
theorem dX4_countRows_1 : decode cX4_countRows 1 = .ok (.bipush 7, 2) := by decide +kernel
theorem dX4_countRows_3 : decode cX4_countRows 3 = .ok (.iconst 0, 1) := by decide +kernel
theorem dX4_countRows_4 : decode cX4_countRows 4 = .ok (.invokevirtual 18, 3) := by decide +kernel
theorem dX4_countRows_7 : decode cX4_countRows 7 = .ok (.aload_n 1, 1) := by decide +kernel
theorem dX4_countRows_8 : decode cX4_countRows 8 = .ok (.invokevirtual 22, 3) := by decide +kernel
theorem dX4_countRows_11 : decode cX4_countRows 11 = .ok (.istore_n 3, 1) := by decide +kernel
theorem dX4_countRows_12 : decode cX4_countRows 12 = .ok (.iload_n 3, 1) := by decide +kernel
theorem dX4_countRows_13 : decode cX4_countRows 13 = .ok (.ifCond .lt 16, 3) := by decide +kernel
theorem dX4_countRows_16 : decode cX4_countRows 16 = .ok (.iload_n 3, 1) := by decide +kernel
theorem dX4_countRows_17 : decode cX4_countRows 17 = .ok (.bipush 7, 2) := by decide +kernel
theorem dX4_countRows_19 : decode cX4_countRows 19 = .ok (.if_icmp .ge 10, 3) := by decide +kernel
theorem dX4_countRows_22 : decode cX4_countRows 22 = .ok (.aload_n 0, 1) := by decide +kernel
theorem dX4_countRows_23 : decode cX4_countRows 23 = .ok (.getfield 9, 3) := by decide +kernel
theorem dX4_countRows_26 : decode cX4_countRows 26 = .ok (.iload_n 3, 1) := by decide +kernel
theorem dX4_countRows_27 : decode cX4_countRows 27 = .ok (.iconst 1, 1) := by decide +kernel
theorem dX4_countRows_28 : decode cX4_countRows 28 = .ok (.iastore, 1) := by decide +kernel
theorem dX4_countRows_29 : decode cX4_countRows 29 = .ok (.iconst 0, 1) := by decide +kernel
theorem dX4_countRows_30 : decode cX4_countRows 30 = .ok (.istore 4, 2) := by decide +kernel
theorem dX4_countRows_32 : decode cX4_countRows 32 = .ok (.iload 4, 2) := by decide +kernel
theorem dX4_countRows_34 : decode cX4_countRows 34 = .ok (.iload_n 2, 1) := by decide +kernel
theorem dX4_countRows_35 : decode cX4_countRows 35 = .ok (.if_icmp .ge 14, 3) := by decide +kernel
theorem dX4_countRows_38 : decode cX4_countRows 38 = .ok (.aload_n 0, 1) := by decide +kernel
theorem dX4_countRows_39 : decode cX4_countRows 39 = .ok (.aload_n 1, 1) := by decide +kernel
theorem dX4_countRows_40 : decode cX4_countRows 40 = .ok (.invokevirtual 28, 3) := by decide +kernel
theorem dX4_countRows_43 : decode cX4_countRows 43 = .ok (.iinc 4 1, 3) := by decide +kernel
theorem dX4_countRows_46 : decode cX4_countRows 46 = .ok (.goto (-14), 3) := by decide +kernel
theorem dX4_countRows_49 : decode cX4_countRows 49 = .ok (.aload_n 0, 1) := by decide +kernel
theorem dX4_countRows_50 : decode cX4_countRows 50 = .ok (.invokevirtual 32, 3) := by decide +kernel
theorem dX4_countRows_53 : decode cX4_countRows 53 = .ok (.ireturn, 1) := by decide +kernel
theorem dX4_settle_0 : decode cX4_settle 0 = .ok (.aload_n 0, 1) := by decide +kernel
theorem dX4_settle_1 : decode cX4_settle 1 = .ok (.aload_n 1, 1) := by decide +kernel
theorem dX4_settle_2 : decode cX4_settle 2 = .ok (.getfield 35, 3) := by decide +kernel
theorem dX4_settle_5 : decode cX4_settle 5 = .ok (.iload_n 3, 1) := by decide +kernel
theorem dX4_settle_6 : decode cX4_settle 6 = .ok (.invokevirtual 18, 3) := by decide +kernel
theorem dX4_settle_9 : decode cX4_settle 9 = .ok (.iconst 1, 1) := by decide +kernel
theorem dX4_settle_10 : decode cX4_settle 10 = .ok (.istore 4, 2) := by decide +kernel
theorem dX4_settle_12 : decode cX4_settle 12 = .ok (.iconst 0, 1) := by decide +kernel
theorem dX4_settle_13 : decode cX4_settle 13 = .ok (.istore 5, 2) := by decide +kernel
theorem dX4_settle_15 : decode cX4_settle 15 = .ok (.iload 5, 2) := by decide +kernel
theorem dX4_settle_17 : decode cX4_settle 17 = .ok (.bipush 100, 2) := by decide +kernel
theorem dX4_settle_19 : decode cX4_settle 19 = .ok (.if_icmp .ge 22, 3) := by decide +kernel
theorem dX4_settle_22 : decode cX4_settle 22 = .ok (.iload 4, 2) := by decide +kernel
theorem dX4_settle_24 : decode cX4_settle 24 = .ok (.ifCond .eq 17, 3) := by decide +kernel
theorem dX4_settle_27 : decode cX4_settle 27 = .ok (.aload_n 0, 1) := by decide +kernel
theorem dX4_settle_28 : decode cX4_settle 28 = .ok (.aload_n 1, 1) := by decide +kernel
theorem dX4_settle_29 : decode cX4_settle 29 = .ok (.iload_n 2, 1) := by decide +kernel
theorem dX4_settle_30 : decode cX4_settle 30 = .ok (.invokevirtual 41, 3) := by decide +kernel
theorem dX4_settle_33 : decode cX4_settle 33 = .ok (.istore 4, 2) := by decide +kernel
theorem dX4_settle_35 : decode cX4_settle 35 = .ok (.iinc 5 1, 3) := by decide +kernel
theorem dX4_settle_38 : decode cX4_settle 38 = .ok (.goto (-23), 3) := by decide +kernel
theorem dX4_settle_41 : decode cX4_settle 41 = .ok (.return_, 1) := by decide +kernel
theorem dX4_shareOf_0 : decode cX4_shareOf 0 = .ok (.aload_n 0, 1) := by decide +kernel
theorem dX4_shareOf_1 : decode cX4_shareOf 1 = .ok (.invokevirtual 32, 3) := by decide +kernel
theorem dX4_shareOf_4 : decode cX4_shareOf 4 = .ok (.istore_n 2, 1) := by decide +kernel
theorem dX4_shareOf_5 : decode cX4_shareOf 5 = .ok (.iload_n 2, 1) := by decide +kernel
theorem dX4_shareOf_6 : decode cX4_shareOf 6 = .ok (.ifCond .ne 7, 3) := by decide +kernel
theorem dX4_shareOf_9 : decode cX4_shareOf 9 = .ok (.iconst 0, 1) := by decide +kernel
theorem dX4_shareOf_10 : decode cX4_shareOf 10 = .ok (.goto 14, 3) := by decide +kernel
theorem dX4_shareOf_13 : decode cX4_shareOf 13 = .ok (.sipush 1000, 3) := by decide +kernel
theorem dX4_shareOf_16 : decode cX4_shareOf 16 = .ok (.aload_n 0, 1) := by decide +kernel
theorem dX4_shareOf_17 : decode cX4_shareOf 17 = .ok (.iload_n 1, 1) := by decide +kernel
theorem dX4_shareOf_18 : decode cX4_shareOf 18 = .ok (.invokevirtual 45, 3) := by decide +kernel
theorem dX4_shareOf_21 : decode cX4_shareOf 21 = .ok (.imul, 1) := by decide +kernel
theorem dX4_shareOf_22 : decode cX4_shareOf 22 = .ok (.iload_n 2, 1) := by decide +kernel
theorem dX4_shareOf_23 : decode cX4_shareOf 23 = .ok (.idiv, 1) := by decide +kernel
theorem dX4_shareOf_24 : decode cX4_shareOf 24 = .ok (.ireturn, 1) := by decide +kernel
theorem dX4_setAll_0 : decode cX4_setAll 0 = .ok (.iconst 0, 1) := by decide +kernel
theorem dX4_setAll_1 : decode cX4_setAll 1 = .ok (.istore_n 3, 1) := by decide +kernel
theorem dX4_setAll_2 : decode cX4_setAll 2 = .ok (.iload_n 3, 1) := by decide +kernel
theorem dX4_setAll_3 : decode cX4_setAll 3 = .ok (.bipush 7, 2) := by decide +kernel
theorem dX4_setAll_5 : decode cX4_setAll 5 = .ok (.if_icmp .ge 25, 3) := by decide +kernel
theorem dX4_setAll_8 : decode cX4_setAll 8 = .ok (.aload_n 0, 1) := by decide +kernel
theorem dX4_setAll_9 : decode cX4_setAll 9 = .ok (.getfield 9, 3) := by decide +kernel
theorem dX4_setAll_12 : decode cX4_setAll 12 = .ok (.iload_n 3, 1) := by decide +kernel
theorem dX4_setAll_13 : decode cX4_setAll 13 = .ok (.iload_n 3, 1) := by decide +kernel
theorem dX4_setAll_14 : decode cX4_setAll 14 = .ok (.iload_n 1, 1) := by decide +kernel
theorem dX4_setAll_15 : decode cX4_setAll 15 = .ok (.if_icmp .ge 7, 3) := by decide +kernel
theorem dX4_setAll_18 : decode cX4_setAll 18 = .ok (.iload_n 2, 1) := by decide +kernel
theorem dX4_setAll_19 : decode cX4_setAll 19 = .ok (.goto 4, 3) := by decide +kernel
theorem dX4_setAll_22 : decode cX4_setAll 22 = .ok (.iconst 0, 1) := by decide +kernel
theorem dX4_setAll_23 : decode cX4_setAll 23 = .ok (.iastore, 1) := by decide +kernel
theorem dX4_setAll_24 : decode cX4_setAll 24 = .ok (.iinc 3 1, 3) := by decide +kernel
theorem dX4_setAll_27 : decode cX4_setAll 27 = .ok (.goto (-25), 3) := by decide +kernel
theorem dX4_setAll_30 : decode cX4_setAll 30 = .ok (.return_, 1) := by decide +kernel
theorem dX4_total_0 : decode cX4_total 0 = .ok (.iconst 0, 1) := by decide +kernel
theorem dX4_total_1 : decode cX4_total 1 = .ok (.istore_n 1, 1) := by decide +kernel
theorem dX4_total_2 : decode cX4_total 2 = .ok (.iconst 0, 1) := by decide +kernel
theorem dX4_total_3 : decode cX4_total 3 = .ok (.istore_n 2, 1) := by decide +kernel
theorem dX4_total_4 : decode cX4_total 4 = .ok (.iload_n 2, 1) := by decide +kernel
theorem dX4_total_5 : decode cX4_total 5 = .ok (.bipush 7, 2) := by decide +kernel
theorem dX4_total_7 : decode cX4_total 7 = .ok (.if_icmp .ge 18, 3) := by decide +kernel
theorem dX4_total_10 : decode cX4_total 10 = .ok (.iload_n 1, 1) := by decide +kernel
theorem dX4_total_11 : decode cX4_total 11 = .ok (.aload_n 0, 1) := by decide +kernel
theorem dX4_total_12 : decode cX4_total 12 = .ok (.getfield 9, 3) := by decide +kernel
theorem dX4_total_15 : decode cX4_total 15 = .ok (.iload_n 2, 1) := by decide +kernel
theorem dX4_total_16 : decode cX4_total 16 = .ok (.iaload, 1) := by decide +kernel
theorem dX4_total_17 : decode cX4_total 17 = .ok (.iadd, 1) := by decide +kernel
theorem dX4_total_18 : decode cX4_total 18 = .ok (.istore_n 1, 1) := by decide +kernel
theorem dX4_total_19 : decode cX4_total 19 = .ok (.iinc 2 1, 3) := by decide +kernel
theorem dX4_total_22 : decode cX4_total 22 = .ok (.goto (-18), 3) := by decide +kernel
theorem dX4_total_25 : decode cX4_total 25 = .ok (.iload_n 1, 1) := by decide +kernel
theorem dX4_total_26 : decode cX4_total 26 = .ok (.ireturn, 1) := by decide +kernel
theorem dX4_lengthenRows_0 : decode cX4_lengthenRows 0 = .ok (.iconst 0, 1) := by decide +kernel
theorem dX4_lengthenRows_1 : decode cX4_lengthenRows 1 = .ok (.istore_n 2, 1) := by decide +kernel
theorem dX4_lengthenRows_2 : decode cX4_lengthenRows 2 = .ok (.iload_n 2, 1) := by decide +kernel
theorem dX4_lengthenRows_3 : decode cX4_lengthenRows 3 = .ok (.bipush 7, 2) := by decide +kernel
theorem dX4_lengthenRows_5 : decode cX4_lengthenRows 5 = .ok (.if_icmp .ge 16, 3) := by decide +kernel
theorem dX4_lengthenRows_8 : decode cX4_lengthenRows 8 = .ok (.aload_n 0, 1) := by decide +kernel
theorem dX4_lengthenRows_9 : decode cX4_lengthenRows 9 = .ok (.getfield 15, 3) := by decide +kernel
theorem dX4_lengthenRows_12 : decode cX4_lengthenRows 12 = .ok (.iload_n 2, 1) := by decide +kernel
theorem dX4_lengthenRows_13 : decode cX4_lengthenRows 13 = .ok (.iconst 0, 1) := by decide +kernel
theorem dX4_lengthenRows_14 : decode cX4_lengthenRows 14 = .ok (.iastore, 1) := by decide +kernel
theorem dX4_lengthenRows_15 : decode cX4_lengthenRows 15 = .ok (.iinc 2 1, 3) := by decide +kernel
theorem dX4_lengthenRows_18 : decode cX4_lengthenRows 18 = .ok (.goto (-16), 3) := by decide +kernel
theorem dX4_lengthenRows_21 : decode cX4_lengthenRows 21 = .ok (.iconst 0, 1) := by decide +kernel
theorem dX4_lengthenRows_22 : decode cX4_lengthenRows 22 = .ok (.istore_n 2, 1) := by decide +kernel
theorem dX4_lengthenRows_23 : decode cX4_lengthenRows 23 = .ok (.iload_n 2, 1) := by decide +kernel
theorem dX4_lengthenRows_24 : decode cX4_lengthenRows 24 = .ok (.bipush 7, 2) := by decide +kernel
theorem dX4_lengthenRows_26 : decode cX4_lengthenRows 26 = .ok (.if_icmp .ge 66, 3) := by decide +kernel
theorem dX4_lengthenRows_29 : decode cX4_lengthenRows 29 = .ok (.iload_n 2, 1) := by decide +kernel
theorem dX4_lengthenRows_30 : decode cX4_lengthenRows 30 = .ok (.aload_n 1, 1) := by decide +kernel
theorem dX4_lengthenRows_31 : decode cX4_lengthenRows 31 = .ok (.invokevirtual 49, 3) := by decide +kernel
theorem dX4_lengthenRows_34 : decode cX4_lengthenRows 34 = .ok (.if_icmp .ge 58, 3) := by decide +kernel
theorem dX4_lengthenRows_37 : decode cX4_lengthenRows 37 = .ok (.iconst 0, 1) := by decide +kernel
theorem dX4_lengthenRows_38 : decode cX4_lengthenRows 38 = .ok (.istore_n 3, 1) := by decide +kernel
theorem dX4_lengthenRows_39 : decode cX4_lengthenRows 39 = .ok (.iload_n 3, 1) := by decide +kernel
theorem dX4_lengthenRows_40 : decode cX4_lengthenRows 40 = .ok (.iconst 1, 1) := by decide +kernel
theorem dX4_lengthenRows_41 : decode cX4_lengthenRows 41 = .ok (.if_icmp .gt 45, 3) := by decide +kernel
theorem dX4_lengthenRows_44 : decode cX4_lengthenRows 44 = .ok (.aload_n 1, 1) := by decide +kernel
theorem dX4_lengthenRows_45 : decode cX4_lengthenRows 45 = .ok (.iload_n 2, 1) := by decide +kernel
theorem dX4_lengthenRows_46 : decode cX4_lengthenRows 46 = .ok (.iload_n 3, 1) := by decide +kernel
theorem dX4_lengthenRows_47 : decode cX4_lengthenRows 47 = .ok (.invokevirtual 52, 3) := by decide +kernel
theorem dX4_lengthenRows_50 : decode cX4_lengthenRows 50 = .ok (.istore 4, 2) := by decide +kernel
theorem dX4_lengthenRows_52 : decode cX4_lengthenRows 52 = .ok (.iload 4, 2) := by decide +kernel
theorem dX4_lengthenRows_54 : decode cX4_lengthenRows 54 = .ok (.ifCond .lt 26, 3) := by decide +kernel
theorem dX4_lengthenRows_57 : decode cX4_lengthenRows 57 = .ok (.iload 4, 2) := by decide +kernel
theorem dX4_lengthenRows_59 : decode cX4_lengthenRows 59 = .ok (.bipush 7, 2) := by decide +kernel
theorem dX4_lengthenRows_61 : decode cX4_lengthenRows 61 = .ok (.if_icmp .ge 19, 3) := by decide +kernel
theorem dX4_lengthenRows_64 : decode cX4_lengthenRows 64 = .ok (.aload_n 0, 1) := by decide +kernel
theorem dX4_lengthenRows_65 : decode cX4_lengthenRows 65 = .ok (.getfield 15, 3) := by decide +kernel
theorem dX4_lengthenRows_68 : decode cX4_lengthenRows 68 = .ok (.iload 4, 2) := by decide +kernel
theorem dX4_lengthenRows_70 : decode cX4_lengthenRows 70 = .ok (.dup2, 1) := by decide +kernel
theorem dX4_lengthenRows_71 : decode cX4_lengthenRows 71 = .ok (.iaload, 1) := by decide +kernel
theorem dX4_lengthenRows_72 : decode cX4_lengthenRows 72 = .ok (.aload_n 0, 1) := by decide +kernel
theorem dX4_lengthenRows_73 : decode cX4_lengthenRows 73 = .ok (.getfield 9, 3) := by decide +kernel
theorem dX4_lengthenRows_76 : decode cX4_lengthenRows 76 = .ok (.iload_n 2, 1) := by decide +kernel
theorem dX4_lengthenRows_77 : decode cX4_lengthenRows 77 = .ok (.iaload, 1) := by decide +kernel
theorem dX4_lengthenRows_78 : decode cX4_lengthenRows 78 = .ok (.iadd, 1) := by decide +kernel
theorem dX4_lengthenRows_79 : decode cX4_lengthenRows 79 = .ok (.iastore, 1) := by decide +kernel
theorem dX4_lengthenRows_80 : decode cX4_lengthenRows 80 = .ok (.iinc 3 1, 3) := by decide +kernel
theorem dX4_lengthenRows_83 : decode cX4_lengthenRows 83 = .ok (.goto (-44), 3) := by decide +kernel
theorem dX4_lengthenRows_86 : decode cX4_lengthenRows 86 = .ok (.iinc 2 1, 3) := by decide +kernel
theorem dX4_lengthenRows_89 : decode cX4_lengthenRows 89 = .ok (.goto (-66), 3) := by decide +kernel
theorem dX4_lengthenRows_92 : decode cX4_lengthenRows 92 = .ok (.aload_n 0, 1) := by decide +kernel
theorem dX4_lengthenRows_93 : decode cX4_lengthenRows 93 = .ok (.getfield 15, 3) := by decide +kernel
theorem dX4_lengthenRows_96 : decode cX4_lengthenRows 96 = .ok (.iconst 0, 1) := by decide +kernel
theorem dX4_lengthenRows_97 : decode cX4_lengthenRows 97 = .ok (.aload_n 0, 1) := by decide +kernel
theorem dX4_lengthenRows_98 : decode cX4_lengthenRows 98 = .ok (.getfield 9, 3) := by decide +kernel
theorem dX4_lengthenRows_101 : decode cX4_lengthenRows 101 = .ok (.iconst 0, 1) := by decide +kernel
theorem dX4_lengthenRows_102 : decode cX4_lengthenRows 102 = .ok (.bipush 7, 2) := by decide +kernel
theorem dX4_lengthenRows_104 : decode cX4_lengthenRows 104 = .ok (.invokestatic 56, 3) := by decide +kernel
theorem dX4_lengthenRows_107 : decode cX4_lengthenRows 107 = .ok (.return_, 1) := by decide +kernel
theorem dX4_lessen_0 : decode cX4_lessen 0 = .ok (.iconst 0, 1) := by decide +kernel
theorem dX4_lessen_1 : decode cX4_lessen 1 = .ok (.istore_n 3, 1) := by decide +kernel
theorem dX4_lessen_2 : decode cX4_lessen 2 = .ok (.iconst 0, 1) := by decide +kernel
theorem dX4_lessen_3 : decode cX4_lessen 3 = .ok (.istore 4, 2) := by decide +kernel
theorem dX4_lessen_5 : decode cX4_lessen 5 = .ok (.iload 4, 2) := by decide +kernel
theorem dX4_lessen_7 : decode cX4_lessen 7 = .ok (.bipush 7, 2) := by decide +kernel
theorem dX4_lessen_9 : decode cX4_lessen 9 = .ok (.if_icmp .ge 54, 3) := by decide +kernel
theorem dX4_lessen_12 : decode cX4_lessen 12 = .ok (.aload_n 0, 1) := by decide +kernel
theorem dX4_lessen_13 : decode cX4_lessen 13 = .ok (.getfield 15, 3) := by decide +kernel
theorem dX4_lessen_16 : decode cX4_lessen 16 = .ok (.iload 4, 2) := by decide +kernel
theorem dX4_lessen_18 : decode cX4_lessen 18 = .ok (.aload_n 0, 1) := by decide +kernel
theorem dX4_lessen_19 : decode cX4_lessen 19 = .ok (.getfield 9, 3) := by decide +kernel
theorem dX4_lessen_22 : decode cX4_lessen 22 = .ok (.iload 4, 2) := by decide +kernel
theorem dX4_lessen_24 : decode cX4_lessen 24 = .ok (.iaload, 1) := by decide +kernel
theorem dX4_lessen_25 : decode cX4_lessen 25 = .ok (.aload_n 0, 1) := by decide +kernel
theorem dX4_lessen_26 : decode cX4_lessen 26 = .ok (.aload_n 1, 1) := by decide +kernel
theorem dX4_lessen_27 : decode cX4_lessen 27 = .ok (.iload 4, 2) := by decide +kernel
theorem dX4_lessen_29 : decode cX4_lessen 29 = .ok (.invokevirtual 62, 3) := by decide +kernel
theorem dX4_lessen_32 : decode cX4_lessen 32 = .ok (.iload_n 2, 1) := by decide +kernel
theorem dX4_lessen_33 : decode cX4_lessen 33 = .ok (.ishr, 1) := by decide +kernel
theorem dX4_lessen_34 : decode cX4_lessen 34 = .ok (.invokestatic 66, 3) := by decide +kernel
theorem dX4_lessen_37 : decode cX4_lessen 37 = .ok (.iastore, 1) := by decide +kernel
theorem dX4_lessen_38 : decode cX4_lessen 38 = .ok (.aload_n 0, 1) := by decide +kernel
theorem dX4_lessen_39 : decode cX4_lessen 39 = .ok (.getfield 15, 3) := by decide +kernel
theorem dX4_lessen_42 : decode cX4_lessen 42 = .ok (.iload 4, 2) := by decide +kernel
theorem dX4_lessen_44 : decode cX4_lessen 44 = .ok (.iaload, 1) := by decide +kernel
theorem dX4_lessen_45 : decode cX4_lessen 45 = .ok (.aload_n 0, 1) := by decide +kernel
theorem dX4_lessen_46 : decode cX4_lessen 46 = .ok (.getfield 9, 3) := by decide +kernel
theorem dX4_lessen_49 : decode cX4_lessen 49 = .ok (.iload 4, 2) := by decide +kernel
theorem dX4_lessen_51 : decode cX4_lessen 51 = .ok (.iaload, 1) := by decide +kernel
theorem dX4_lessen_52 : decode cX4_lessen 52 = .ok (.if_icmp .eq 5, 3) := by decide +kernel
theorem dX4_lessen_55 : decode cX4_lessen 55 = .ok (.iconst 1, 1) := by decide +kernel
theorem dX4_lessen_56 : decode cX4_lessen 56 = .ok (.istore_n 3, 1) := by decide +kernel
theorem dX4_lessen_57 : decode cX4_lessen 57 = .ok (.iinc 4 1, 3) := by decide +kernel
theorem dX4_lessen_60 : decode cX4_lessen 60 = .ok (.goto (-55), 3) := by decide +kernel
theorem dX4_lessen_63 : decode cX4_lessen 63 = .ok (.aload_n 0, 1) := by decide +kernel
theorem dX4_lessen_64 : decode cX4_lessen 64 = .ok (.getfield 15, 3) := by decide +kernel
theorem dX4_lessen_67 : decode cX4_lessen 67 = .ok (.iconst 0, 1) := by decide +kernel
theorem dX4_lessen_68 : decode cX4_lessen 68 = .ok (.aload_n 0, 1) := by decide +kernel
theorem dX4_lessen_69 : decode cX4_lessen 69 = .ok (.getfield 9, 3) := by decide +kernel
theorem dX4_lessen_72 : decode cX4_lessen 72 = .ok (.iconst 0, 1) := by decide +kernel
theorem dX4_lessen_73 : decode cX4_lessen 73 = .ok (.bipush 7, 2) := by decide +kernel
theorem dX4_lessen_75 : decode cX4_lessen 75 = .ok (.invokestatic 56, 3) := by decide +kernel
theorem dX4_lessen_78 : decode cX4_lessen 78 = .ok (.iload_n 3, 1) := by decide +kernel
theorem dX4_lessen_79 : decode cX4_lessen 79 = .ok (.ireturn, 1) := by decide +kernel
theorem dX4_sumOver_0 : decode cX4_sumOver 0 = .ok (.iconst 0, 1) := by decide +kernel
theorem dX4_sumOver_1 : decode cX4_sumOver 1 = .ok (.istore_n 3, 1) := by decide +kernel
theorem dX4_sumOver_2 : decode cX4_sumOver 2 = .ok (.iconst 0, 1) := by decide +kernel
theorem dX4_sumOver_3 : decode cX4_sumOver 3 = .ok (.istore 4, 2) := by decide +kernel
theorem dX4_sumOver_5 : decode cX4_sumOver 5 = .ok (.iload 4, 2) := by decide +kernel
theorem dX4_sumOver_7 : decode cX4_sumOver 7 = .ok (.bipush 16, 2) := by decide +kernel
theorem dX4_sumOver_9 : decode cX4_sumOver 9 = .ok (.if_icmp .ge 23, 3) := by decide +kernel
theorem dX4_sumOver_12 : decode cX4_sumOver 12 = .ok (.iload_n 3, 1) := by decide +kernel
theorem dX4_sumOver_13 : decode cX4_sumOver 13 = .ok (.aload_n 0, 1) := by decide +kernel
theorem dX4_sumOver_14 : decode cX4_sumOver 14 = .ok (.aload_n 1, 1) := by decide +kernel
theorem dX4_sumOver_15 : decode cX4_sumOver 15 = .ok (.iload_n 2, 1) := by decide +kernel
theorem dX4_sumOver_16 : decode cX4_sumOver 16 = .ok (.iload 4, 2) := by decide +kernel
theorem dX4_sumOver_18 : decode cX4_sumOver 18 = .ok (.invokevirtual 71, 3) := by decide +kernel
theorem dX4_sumOver_21 : decode cX4_sumOver 21 = .ok (.invokevirtual 45, 3) := by decide +kernel
theorem dX4_sumOver_24 : decode cX4_sumOver 24 = .ok (.iadd, 1) := by decide +kernel
theorem dX4_sumOver_25 : decode cX4_sumOver 25 = .ok (.istore_n 3, 1) := by decide +kernel
theorem dX4_sumOver_26 : decode cX4_sumOver 26 = .ok (.iinc 4 1, 3) := by decide +kernel
theorem dX4_sumOver_29 : decode cX4_sumOver 29 = .ok (.goto (-24), 3) := by decide +kernel
theorem dX4_sumOver_32 : decode cX4_sumOver 32 = .ok (.iload_n 3, 1) := by decide +kernel
theorem dX4_sumOver_33 : decode cX4_sumOver 33 = .ok (.ireturn, 1) := by decide +kernel
theorem dX5_init_0 : decode cX5_init 0 = .ok (.aload_n 0, 1) := by decide +kernel
theorem dX5_init_1 : decode cX5_init 1 = .ok (.invokespecial 3, 3) := by decide +kernel
theorem dX5_init_4 : decode cX5_init 4 = .ok (.aload_n 0, 1) := by decide +kernel
theorem dX5_init_5 : decode cX5_init 5 = .ok (.bipush 60, 2) := by decide +kernel
theorem dX5_init_7 : decode cX5_init 7 = .ok (.newarray .int, 2) := by decide +kernel
theorem dX5_init_9 : decode cX5_init 9 = .ok (.putfield 9, 3) := by decide +kernel
theorem dX5_init_12 : decode cX5_init 12 = .ok (.aload_n 0, 1) := by decide +kernel
theorem dX5_init_13 : decode cX5_init 13 = .ok (.iconst 0, 1) := by decide +kernel
theorem dX5_init_14 : decode cX5_init 14 = .ok (.putfield 15, 3) := by decide +kernel
theorem dX5_init_17 : decode cX5_init 17 = .ok (.return_, 1) := by decide +kernel
theorem dX5_append_0 : decode cX5_append 0 = .ok (.aload_n 0, 1) := by decide +kernel
theorem dX5_append_1 : decode cX5_append 1 = .ok (.getfield 15, 3) := by decide +kernel
theorem dX5_append_4 : decode cX5_append 4 = .ok (.ifCond .lt 32, 3) := by decide +kernel
theorem dX5_append_7 : decode cX5_append 7 = .ok (.aload_n 0, 1) := by decide +kernel
theorem dX5_append_8 : decode cX5_append 8 = .ok (.getfield 15, 3) := by decide +kernel
theorem dX5_append_11 : decode cX5_append 11 = .ok (.bipush 60, 2) := by decide +kernel
theorem dX5_append_13 : decode cX5_append 13 = .ok (.if_icmp .ge 23, 3) := by decide +kernel
theorem dX5_append_16 : decode cX5_append 16 = .ok (.aload_n 0, 1) := by decide +kernel
theorem dX5_append_17 : decode cX5_append 17 = .ok (.getfield 9, 3) := by decide +kernel
theorem dX5_append_20 : decode cX5_append 20 = .ok (.aload_n 0, 1) := by decide +kernel
theorem dX5_append_21 : decode cX5_append 21 = .ok (.getfield 15, 3) := by decide +kernel
theorem dX5_append_24 : decode cX5_append 24 = .ok (.iload_n 1, 1) := by decide +kernel
theorem dX5_append_25 : decode cX5_append 25 = .ok (.iastore, 1) := by decide +kernel
theorem dX5_append_26 : decode cX5_append 26 = .ok (.aload_n 0, 1) := by decide +kernel
theorem dX5_append_27 : decode cX5_append 27 = .ok (.dup, 1) := by decide +kernel
theorem dX5_append_28 : decode cX5_append 28 = .ok (.getfield 15, 3) := by decide +kernel
theorem dX5_append_31 : decode cX5_append 31 = .ok (.iconst 1, 1) := by decide +kernel
theorem dX5_append_32 : decode cX5_append 32 = .ok (.iadd, 1) := by decide +kernel
theorem dX5_append_33 : decode cX5_append 33 = .ok (.putfield 15, 3) := by decide +kernel
theorem dX5_append_36 : decode cX5_append 36 = .ok (.return_, 1) := by decide +kernel
theorem dX5_readTo_0 : decode cX5_readTo 0 = .ok (.aload_n 1, 1) := by decide +kernel
theorem dX5_readTo_1 : decode cX5_readTo 1 = .ok (.invokevirtual 19, 3) := by decide +kernel
theorem dX5_readTo_4 : decode cX5_readTo 4 = .ok (.aload_n 0, 1) := by decide +kernel
theorem dX5_readTo_5 : decode cX5_readTo 5 = .ok (.iconst 0, 1) := by decide +kernel
theorem dX5_readTo_6 : decode cX5_readTo 6 = .ok (.putfield 24, 3) := by decide +kernel
theorem dX5_readTo_9 : decode cX5_readTo 9 = .ok (.aload_n 0, 1) := by decide +kernel
theorem dX5_readTo_10 : decode cX5_readTo 10 = .ok (.iconst 0, 1) := by decide +kernel
theorem dX5_readTo_11 : decode cX5_readTo 11 = .ok (.putfield 27, 3) := by decide +kernel
theorem dX5_readTo_14 : decode cX5_readTo 14 = .ok (.aload_n 0, 1) := by decide +kernel
theorem dX5_readTo_15 : decode cX5_readTo 15 = .ok (.iconst 0, 1) := by decide +kernel
theorem dX5_readTo_16 : decode cX5_readTo 16 = .ok (.putfield 31, 3) := by decide +kernel
theorem dX5_readTo_19 : decode cX5_readTo 19 = .ok (.iconst 0, 1) := by decide +kernel
theorem dX5_readTo_20 : decode cX5_readTo 20 = .ok (.istore_n 2, 1) := by decide +kernel
theorem dX5_readTo_21 : decode cX5_readTo 21 = .ok (.iload_n 2, 1) := by decide +kernel
theorem dX5_readTo_22 : decode cX5_readTo 22 = .ok (.aload_n 0, 1) := by decide +kernel
theorem dX5_readTo_23 : decode cX5_readTo 23 = .ok (.getfield 15, 3) := by decide +kernel
theorem dX5_readTo_26 : decode cX5_readTo 26 = .ok (.if_icmp .ge 28, 3) := by decide +kernel
theorem dX5_readTo_29 : decode cX5_readTo 29 = .ok (.aload_n 0, 1) := by decide +kernel
theorem dX5_readTo_30 : decode cX5_readTo 30 = .ok (.iload_n 2, 1) := by decide +kernel
theorem dX5_readTo_31 : decode cX5_readTo 31 = .ok (.invokevirtual 34, 3) := by decide +kernel
theorem dX5_readTo_34 : decode cX5_readTo 34 = .ok (.ifCond .eq 14, 3) := by decide +kernel
theorem dX5_readTo_37 : decode cX5_readTo 37 = .ok (.aload_n 0, 1) := by decide +kernel
theorem dX5_readTo_38 : decode cX5_readTo 38 = .ok (.iload_n 2, 1) := by decide +kernel
theorem dX5_readTo_39 : decode cX5_readTo 39 = .ok (.aload_n 1, 1) := by decide +kernel
theorem dX5_readTo_40 : decode cX5_readTo 40 = .ok (.invokevirtual 38, 3) := by decide +kernel
theorem dX5_readTo_43 : decode cX5_readTo 43 = .ok (.ifCond .ne 5, 3) := by decide +kernel
theorem dX5_readTo_46 : decode cX5_readTo 46 = .ok (.iload_n 2, 1) := by decide +kernel
theorem dX5_readTo_47 : decode cX5_readTo 47 = .ok (.ireturn, 1) := by decide +kernel
theorem dX5_readTo_48 : decode cX5_readTo 48 = .ok (.iinc 2 1, 3) := by decide +kernel
theorem dX5_readTo_51 : decode cX5_readTo 51 = .ok (.goto (-30), 3) := by decide +kernel
theorem dX5_readTo_54 : decode cX5_readTo 54 = .ok (.aload_n 0, 1) := by decide +kernel
theorem dX5_readTo_55 : decode cX5_readTo 55 = .ok (.getfield 24, 3) := by decide +kernel
theorem dX5_readTo_58 : decode cX5_readTo 58 = .ok (.bipush 8, 2) := by decide +kernel
theorem dX5_readTo_60 : decode cX5_readTo 60 = .ok (.if_icmp .ne 7, 3) := by decide +kernel
theorem dX5_readTo_63 : decode cX5_readTo 63 = .ok (.iconst (-1), 1) := by decide +kernel
theorem dX5_readTo_64 : decode cX5_readTo 64 = .ok (.goto 7, 3) := by decide +kernel
theorem dX5_readTo_67 : decode cX5_readTo 67 = .ok (.aload_n 0, 1) := by decide +kernel
theorem dX5_readTo_68 : decode cX5_readTo 68 = .ok (.getfield 15, 3) := by decide +kernel
theorem dX5_readTo_71 : decode cX5_readTo 71 = .ok (.ireturn, 1) := by decide +kernel
theorem dX5_letterAt_0 : decode cX5_letterAt 0 = .ok (.iload_n 1, 1) := by decide +kernel
theorem dX5_letterAt_1 : decode cX5_letterAt 1 = .ok (.ifCond .lt 17, 3) := by decide +kernel
theorem dX5_letterAt_4 : decode cX5_letterAt 4 = .ok (.iload_n 1, 1) := by decide +kernel
theorem dX5_letterAt_5 : decode cX5_letterAt 5 = .ok (.aload_n 0, 1) := by decide +kernel
theorem dX5_letterAt_6 : decode cX5_letterAt 6 = .ok (.getfield 15, 3) := by decide +kernel
theorem dX5_letterAt_9 : decode cX5_letterAt 9 = .ok (.if_icmp .ge 9, 3) := by decide +kernel
theorem dX5_letterAt_12 : decode cX5_letterAt 12 = .ok (.iload_n 1, 1) := by decide +kernel
theorem dX5_letterAt_13 : decode cX5_letterAt 13 = .ok (.bipush 60, 2) := by decide +kernel
theorem dX5_letterAt_15 : decode cX5_letterAt 15 = .ok (.if_icmp .lt 8, 3) := by decide +kernel
theorem dX5_letterAt_18 : decode cX5_letterAt 18 = .ok (.bipush 32, 2) := by decide +kernel
theorem dX5_letterAt_20 : decode cX5_letterAt 20 = .ok (.goto 9, 3) := by decide +kernel
theorem dX5_letterAt_23 : decode cX5_letterAt 23 = .ok (.aload_n 0, 1) := by decide +kernel
theorem dX5_letterAt_24 : decode cX5_letterAt 24 = .ok (.getfield 9, 3) := by decide +kernel
theorem dX5_letterAt_27 : decode cX5_letterAt 27 = .ok (.iload_n 1, 1) := by decide +kernel
theorem dX5_letterAt_28 : decode cX5_letterAt 28 = .ok (.iaload, 1) := by decide +kernel
theorem dX5_letterAt_29 : decode cX5_letterAt 29 = .ok (.ireturn, 1) := by decide +kernel
theorem dX5_isFigure_0 : decode cX5_isFigure 0 = .ok (.aload_n 0, 1) := by decide +kernel
theorem dX5_isFigure_1 : decode cX5_isFigure 1 = .ok (.iload_n 1, 1) := by decide +kernel
theorem dX5_isFigure_2 : decode cX5_isFigure 2 = .ok (.invokevirtual 42, 3) := by decide +kernel
theorem dX5_isFigure_5 : decode cX5_isFigure 5 = .ok (.istore_n 2, 1) := by decide +kernel
theorem dX5_isFigure_6 : decode cX5_isFigure 6 = .ok (.iload_n 2, 1) := by decide +kernel
theorem dX5_isFigure_7 : decode cX5_isFigure 7 = .ok (.bipush 48, 2) := by decide +kernel
theorem dX5_isFigure_9 : decode cX5_isFigure 9 = .ok (.if_icmp .lt 13, 3) := by decide +kernel
theorem dX5_isFigure_12 : decode cX5_isFigure 12 = .ok (.iload_n 2, 1) := by decide +kernel
theorem dX5_isFigure_13 : decode cX5_isFigure 13 = .ok (.bipush 57, 2) := by decide +kernel
theorem dX5_isFigure_15 : decode cX5_isFigure 15 = .ok (.if_icmp .gt 7, 3) := by decide +kernel
theorem dX5_isFigure_18 : decode cX5_isFigure 18 = .ok (.iconst 1, 1) := by decide +kernel
theorem dX5_isFigure_19 : decode cX5_isFigure 19 = .ok (.goto 4, 3) := by decide +kernel
theorem dX5_isFigure_22 : decode cX5_isFigure 22 = .ok (.iconst 0, 1) := by decide +kernel
theorem dX5_isFigure_23 : decode cX5_isFigure 23 = .ok (.ireturn, 1) := by decide +kernel
theorem dX5_isTokenStart_0 : decode cX5_isTokenStart 0 = .ok (.aload_n 0, 1) := by decide +kernel
theorem dX5_isTokenStart_1 : decode cX5_isTokenStart 1 = .ok (.iload_n 1, 1) := by decide +kernel
theorem dX5_isTokenStart_2 : decode cX5_isTokenStart 2 = .ok (.invokevirtual 42, 3) := by decide +kernel
theorem dX5_isTokenStart_5 : decode cX5_isTokenStart 5 = .ok (.bipush 32, 2) := by decide +kernel
theorem dX5_isTokenStart_7 : decode cX5_isTokenStart 7 = .ok (.if_icmp .eq 25, 3) := by decide +kernel
theorem dX5_isTokenStart_10 : decode cX5_isTokenStart 10 = .ok (.aload_n 0, 1) := by decide +kernel
theorem dX5_isTokenStart_11 : decode cX5_isTokenStart 11 = .ok (.iload_n 1, 1) := by decide +kernel
theorem dX5_isTokenStart_12 : decode cX5_isTokenStart 12 = .ok (.invokevirtual 46, 3) := by decide +kernel
theorem dX5_isTokenStart_15 : decode cX5_isTokenStart 15 = .ok (.ifCond .eq 13, 3) := by decide +kernel
theorem dX5_isTokenStart_18 : decode cX5_isTokenStart 18 = .ok (.aload_n 0, 1) := by decide +kernel
theorem dX5_isTokenStart_19 : decode cX5_isTokenStart 19 = .ok (.iload_n 1, 1) := by decide +kernel
theorem dX5_isTokenStart_20 : decode cX5_isTokenStart 20 = .ok (.iconst 1, 1) := by decide +kernel
theorem dX5_isTokenStart_21 : decode cX5_isTokenStart 21 = .ok (.isub, 1) := by decide +kernel
theorem dX5_isTokenStart_22 : decode cX5_isTokenStart 22 = .ok (.invokevirtual 46, 3) := by decide +kernel
theorem dX5_isTokenStart_25 : decode cX5_isTokenStart 25 = .ok (.ifCond .ne 7, 3) := by decide +kernel
theorem dX5_isTokenStart_28 : decode cX5_isTokenStart 28 = .ok (.iconst 1, 1) := by decide +kernel
theorem dX5_isTokenStart_29 : decode cX5_isTokenStart 29 = .ok (.goto 4, 3) := by decide +kernel
theorem dX5_isTokenStart_32 : decode cX5_isTokenStart 32 = .ok (.iconst 0, 1) := by decide +kernel
theorem dX5_isTokenStart_33 : decode cX5_isTokenStart 33 = .ok (.ireturn, 1) := by decide +kernel
theorem dX5_tokenLength_0 : decode cX5_tokenLength 0 = .ok (.iconst 1, 1) := by decide +kernel
theorem dX5_tokenLength_1 : decode cX5_tokenLength 1 = .ok (.istore_n 2, 1) := by decide +kernel
theorem dX5_tokenLength_2 : decode cX5_tokenLength 2 = .ok (.iload_n 2, 1) := by decide +kernel
theorem dX5_tokenLength_3 : decode cX5_tokenLength 3 = .ok (.bipush 60, 2) := by decide +kernel
theorem dX5_tokenLength_5 : decode cX5_tokenLength 5 = .ok (.if_icmp .ge 27, 3) := by decide +kernel
theorem dX5_tokenLength_8 : decode cX5_tokenLength 8 = .ok (.aload_n 0, 1) := by decide +kernel
theorem dX5_tokenLength_9 : decode cX5_tokenLength 9 = .ok (.iload_n 1, 1) := by decide +kernel
theorem dX5_tokenLength_10 : decode cX5_tokenLength 10 = .ok (.invokevirtual 46, 3) := by decide +kernel
theorem dX5_tokenLength_13 : decode cX5_tokenLength 13 = .ok (.ifCond .eq 19, 3) := by decide +kernel
theorem dX5_tokenLength_16 : decode cX5_tokenLength 16 = .ok (.aload_n 0, 1) := by decide +kernel
theorem dX5_tokenLength_17 : decode cX5_tokenLength 17 = .ok (.iload_n 1, 1) := by decide +kernel
theorem dX5_tokenLength_18 : decode cX5_tokenLength 18 = .ok (.iload_n 2, 1) := by decide +kernel
theorem dX5_tokenLength_19 : decode cX5_tokenLength 19 = .ok (.iadd, 1) := by decide +kernel
theorem dX5_tokenLength_20 : decode cX5_tokenLength 20 = .ok (.invokevirtual 46, 3) := by decide +kernel
theorem dX5_tokenLength_23 : decode cX5_tokenLength 23 = .ok (.ifCond .eq 9, 3) := by decide +kernel
theorem dX5_tokenLength_26 : decode cX5_tokenLength 26 = .ok (.iinc 2 1, 3) := by decide +kernel
theorem dX5_tokenLength_29 : decode cX5_tokenLength 29 = .ok (.goto (-27), 3) := by decide +kernel
theorem dX5_tokenLength_32 : decode cX5_tokenLength 32 = .ok (.iload_n 2, 1) := by decide +kernel
theorem dX5_tokenLength_33 : decode cX5_tokenLength 33 = .ok (.ireturn, 1) := by decide +kernel
theorem dX5_takes_0 : decode cX5_takes 0 = .ok (.aload_n 0, 1) := by decide +kernel
theorem dX5_takes_1 : decode cX5_takes 1 = .ok (.getfield 24, 3) := by decide +kernel
theorem dX5_takes_4 : decode cX5_takes 4 = .ok (.tableswitch 284 0 7 #[48, 59, 89, 127, 158, 200, 231, 262], 48) := by decide +kernel
theorem dX5_takes_52 : decode cX5_takes 52 = .ok (.aload_n 0, 1) := by decide +kernel
theorem dX5_takes_53 : decode cX5_takes 53 = .ok (.aload_n 0, 1) := by decide +kernel
theorem dX5_takes_54 : decode cX5_takes 54 = .ok (.iload_n 1, 1) := by decide +kernel
theorem dX5_takes_55 : decode cX5_takes 55 = .ok (.invokevirtual 42, 3) := by decide +kernel
theorem dX5_takes_58 : decode cX5_takes 58 = .ok (.aload_n 2, 1) := by decide +kernel
theorem dX5_takes_59 : decode cX5_takes 59 = .ok (.invokevirtual 49, 3) := by decide +kernel
theorem dX5_takes_62 : decode cX5_takes 62 = .ok (.ireturn, 1) := by decide +kernel
theorem dX5_takes_63 : decode cX5_takes 63 = .ok (.aload_n 2, 1) := by decide +kernel
theorem dX5_takes_64 : decode cX5_takes 64 = .ok (.aload_n 0, 1) := by decide +kernel
theorem dX5_takes_65 : decode cX5_takes 65 = .ok (.iload_n 1, 1) := by decide +kernel
theorem dX5_takes_66 : decode cX5_takes 66 = .ok (.iconst 0, 1) := by decide +kernel
theorem dX5_takes_67 : decode cX5_takes 67 = .ok (.iconst 3, 1) := by decide +kernel
theorem dX5_takes_68 : decode cX5_takes 68 = .ok (.invokevirtual 52, 3) := by decide +kernel
theorem dX5_takes_71 : decode cX5_takes 71 = .ok (.putfield 56, 3) := by decide +kernel
theorem dX5_takes_74 : decode cX5_takes 74 = .ok (.aload_n 0, 1) := by decide +kernel
theorem dX5_takes_75 : decode cX5_takes 75 = .ok (.iconst 2, 1) := by decide +kernel
theorem dX5_takes_76 : decode cX5_takes 76 = .ok (.putfield 24, 3) := by decide +kernel
theorem dX5_takes_79 : decode cX5_takes 79 = .ok (.aload_n 2, 1) := by decide +kernel
theorem dX5_takes_80 : decode cX5_takes 80 = .ok (.getfield 56, 3) := by decide +kernel
theorem dX5_takes_83 : decode cX5_takes 83 = .ok (.iconst (-1), 1) := by decide +kernel
theorem dX5_takes_84 : decode cX5_takes 84 = .ok (.if_icmp .eq 7, 3) := by decide +kernel
theorem dX5_takes_87 : decode cX5_takes 87 = .ok (.iconst 1, 1) := by decide +kernel
theorem dX5_takes_88 : decode cX5_takes 88 = .ok (.goto 4, 3) := by decide +kernel
theorem dX5_takes_91 : decode cX5_takes 91 = .ok (.iconst 0, 1) := by decide +kernel
theorem dX5_takes_92 : decode cX5_takes 92 = .ok (.ireturn, 1) := by decide +kernel
theorem dX5_takes_93 : decode cX5_takes 93 = .ok (.aload_n 2, 1) := by decide +kernel
theorem dX5_takes_94 : decode cX5_takes 94 = .ok (.aload_n 0, 1) := by decide +kernel
theorem dX5_takes_95 : decode cX5_takes 95 = .ok (.iload_n 1, 1) := by decide +kernel
theorem dX5_takes_96 : decode cX5_takes 96 = .ok (.aload_n 2, 1) := by decide +kernel
theorem dX5_takes_97 : decode cX5_takes 97 = .ok (.getfield 56, 3) := by decide +kernel
theorem dX5_takes_100 : decode cX5_takes 100 = .ok (.iconst 1, 1) := by decide +kernel
theorem dX5_takes_101 : decode cX5_takes 101 = .ok (.invokestatic 59, 3) := by decide +kernel
theorem dX5_takes_104 : decode cX5_takes 104 = .ok (.iconst 5, 1) := by decide +kernel
theorem dX5_takes_105 : decode cX5_takes 105 = .ok (.invokevirtual 52, 3) := by decide +kernel
theorem dX5_takes_108 : decode cX5_takes 108 = .ok (.putfield 65, 3) := by decide +kernel
theorem dX5_takes_111 : decode cX5_takes 111 = .ok (.aload_n 0, 1) := by decide +kernel
theorem dX5_takes_112 : decode cX5_takes 112 = .ok (.bipush 7, 2) := by decide +kernel
theorem dX5_takes_114 : decode cX5_takes 114 = .ok (.putfield 24, 3) := by decide +kernel
theorem dX5_takes_117 : decode cX5_takes 117 = .ok (.aload_n 2, 1) := by decide +kernel
theorem dX5_takes_118 : decode cX5_takes 118 = .ok (.getfield 65, 3) := by decide +kernel
theorem dX5_takes_121 : decode cX5_takes 121 = .ok (.iconst (-1), 1) := by decide +kernel
theorem dX5_takes_122 : decode cX5_takes 122 = .ok (.if_icmp .eq 7, 3) := by decide +kernel
theorem dX5_takes_125 : decode cX5_takes 125 = .ok (.iconst 1, 1) := by decide +kernel
theorem dX5_takes_126 : decode cX5_takes 126 = .ok (.goto 4, 3) := by decide +kernel
theorem dX5_takes_129 : decode cX5_takes 129 = .ok (.iconst 0, 1) := by decide +kernel
theorem dX5_takes_130 : decode cX5_takes 130 = .ok (.ireturn, 1) := by decide +kernel
theorem dX5_takes_131 : decode cX5_takes 131 = .ok (.aload_n 2, 1) := by decide +kernel
theorem dX5_takes_132 : decode cX5_takes 132 = .ok (.aload_n 0, 1) := by decide +kernel
theorem dX5_takes_133 : decode cX5_takes 133 = .ok (.iload_n 1, 1) := by decide +kernel
theorem dX5_takes_134 : decode cX5_takes 134 = .ok (.iconst 1, 1) := by decide +kernel
theorem dX5_takes_135 : decode cX5_takes 135 = .ok (.iconst 3, 1) := by decide +kernel
theorem dX5_takes_136 : decode cX5_takes 136 = .ok (.invokevirtual 52, 3) := by decide +kernel
theorem dX5_takes_139 : decode cX5_takes 139 = .ok (.putfield 56, 3) := by decide +kernel
theorem dX5_takes_142 : decode cX5_takes 142 = .ok (.aload_n 0, 1) := by decide +kernel
theorem dX5_takes_143 : decode cX5_takes 143 = .ok (.bipush 7, 2) := by decide +kernel
theorem dX5_takes_145 : decode cX5_takes 145 = .ok (.putfield 24, 3) := by decide +kernel
theorem dX5_takes_148 : decode cX5_takes 148 = .ok (.aload_n 2, 1) := by decide +kernel
theorem dX5_takes_149 : decode cX5_takes 149 = .ok (.getfield 56, 3) := by decide +kernel
theorem dX5_takes_152 : decode cX5_takes 152 = .ok (.iconst (-1), 1) := by decide +kernel
theorem dX5_takes_153 : decode cX5_takes 153 = .ok (.if_icmp .eq 7, 3) := by decide +kernel
theorem dX5_takes_156 : decode cX5_takes 156 = .ok (.iconst 1, 1) := by decide +kernel
theorem dX5_takes_157 : decode cX5_takes 157 = .ok (.goto 4, 3) := by decide +kernel
theorem dX5_takes_160 : decode cX5_takes 160 = .ok (.iconst 0, 1) := by decide +kernel
theorem dX5_takes_161 : decode cX5_takes 161 = .ok (.ireturn, 1) := by decide +kernel
theorem dX5_takes_162 : decode cX5_takes 162 = .ok (.aload_n 2, 1) := by decide +kernel
theorem dX5_takes_163 : decode cX5_takes 163 = .ok (.aload_n 0, 1) := by decide +kernel
theorem dX5_takes_164 : decode cX5_takes 164 = .ok (.iload_n 1, 1) := by decide +kernel
theorem dX5_takes_165 : decode cX5_takes 165 = .ok (.invokevirtual 68, 3) := by decide +kernel
theorem dX5_takes_168 : decode cX5_takes 168 = .ok (.putfield 65, 3) := by decide +kernel
theorem dX5_takes_171 : decode cX5_takes 171 = .ok (.aload_n 2, 1) := by decide +kernel
theorem dX5_takes_172 : decode cX5_takes 172 = .ok (.aload_n 0, 1) := by decide +kernel
theorem dX5_takes_173 : decode cX5_takes 173 = .ok (.iload_n 1, 1) := by decide +kernel
theorem dX5_takes_174 : decode cX5_takes 174 = .ok (.aload_n 2, 1) := by decide +kernel
theorem dX5_takes_175 : decode cX5_takes 175 = .ok (.getfield 65, 3) := by decide +kernel
theorem dX5_takes_178 : decode cX5_takes 178 = .ok (.invokevirtual 71, 3) := by decide +kernel
theorem dX5_takes_181 : decode cX5_takes 181 = .ok (.putfield 56, 3) := by decide +kernel
theorem dX5_takes_184 : decode cX5_takes 184 = .ok (.aload_n 0, 1) := by decide +kernel
theorem dX5_takes_185 : decode cX5_takes 185 = .ok (.bipush 7, 2) := by decide +kernel
theorem dX5_takes_187 : decode cX5_takes 187 = .ok (.putfield 24, 3) := by decide +kernel
theorem dX5_takes_190 : decode cX5_takes 190 = .ok (.aload_n 2, 1) := by decide +kernel
theorem dX5_takes_191 : decode cX5_takes 191 = .ok (.getfield 56, 3) := by decide +kernel
theorem dX5_takes_194 : decode cX5_takes 194 = .ok (.iconst (-1), 1) := by decide +kernel
theorem dX5_takes_195 : decode cX5_takes 195 = .ok (.if_icmp .eq 7, 3) := by decide +kernel
theorem dX5_takes_198 : decode cX5_takes 198 = .ok (.iconst 1, 1) := by decide +kernel
theorem dX5_takes_199 : decode cX5_takes 199 = .ok (.goto 4, 3) := by decide +kernel
theorem dX5_takes_202 : decode cX5_takes 202 = .ok (.iconst 0, 1) := by decide +kernel
theorem dX5_takes_203 : decode cX5_takes 203 = .ok (.ireturn, 1) := by decide +kernel
theorem dX5_takes_204 : decode cX5_takes 204 = .ok (.aload_n 2, 1) := by decide +kernel
theorem dX5_takes_205 : decode cX5_takes 205 = .ok (.aload_n 0, 1) := by decide +kernel
theorem dX5_takes_206 : decode cX5_takes 206 = .ok (.iload_n 1, 1) := by decide +kernel
theorem dX5_takes_207 : decode cX5_takes 207 = .ok (.iconst 1, 1) := by decide +kernel
theorem dX5_takes_208 : decode cX5_takes 208 = .ok (.iconst 3, 1) := by decide +kernel
theorem dX5_takes_209 : decode cX5_takes 209 = .ok (.invokevirtual 52, 3) := by decide +kernel
theorem dX5_takes_212 : decode cX5_takes 212 = .ok (.putfield 74, 3) := by decide +kernel
theorem dX5_takes_215 : decode cX5_takes 215 = .ok (.aload_n 0, 1) := by decide +kernel
theorem dX5_takes_216 : decode cX5_takes 216 = .ok (.bipush 7, 2) := by decide +kernel
theorem dX5_takes_218 : decode cX5_takes 218 = .ok (.putfield 24, 3) := by decide +kernel
theorem dX5_takes_221 : decode cX5_takes 221 = .ok (.aload_n 2, 1) := by decide +kernel
theorem dX5_takes_222 : decode cX5_takes 222 = .ok (.getfield 74, 3) := by decide +kernel
theorem dX5_takes_225 : decode cX5_takes 225 = .ok (.iconst (-1), 1) := by decide +kernel
theorem dX5_takes_226 : decode cX5_takes 226 = .ok (.if_icmp .eq 7, 3) := by decide +kernel
theorem dX5_takes_229 : decode cX5_takes 229 = .ok (.iconst 1, 1) := by decide +kernel
theorem dX5_takes_230 : decode cX5_takes 230 = .ok (.goto 4, 3) := by decide +kernel
theorem dX5_takes_233 : decode cX5_takes 233 = .ok (.iconst 0, 1) := by decide +kernel
theorem dX5_takes_234 : decode cX5_takes 234 = .ok (.ireturn, 1) := by decide +kernel
theorem dX5_takes_235 : decode cX5_takes 235 = .ok (.aload_n 2, 1) := by decide +kernel
theorem dX5_takes_236 : decode cX5_takes 236 = .ok (.aload_n 0, 1) := by decide +kernel
theorem dX5_takes_237 : decode cX5_takes 237 = .ok (.iload_n 1, 1) := by decide +kernel
theorem dX5_takes_238 : decode cX5_takes 238 = .ok (.iconst 1, 1) := by decide +kernel
theorem dX5_takes_239 : decode cX5_takes 239 = .ok (.iconst 4, 1) := by decide +kernel
theorem dX5_takes_240 : decode cX5_takes 240 = .ok (.invokevirtual 52, 3) := by decide +kernel
theorem dX5_takes_243 : decode cX5_takes 243 = .ok (.putfield 77, 3) := by decide +kernel
theorem dX5_takes_246 : decode cX5_takes 246 = .ok (.aload_n 0, 1) := by decide +kernel
theorem dX5_takes_247 : decode cX5_takes 247 = .ok (.bipush 7, 2) := by decide +kernel
theorem dX5_takes_249 : decode cX5_takes 249 = .ok (.putfield 24, 3) := by decide +kernel
theorem dX5_takes_252 : decode cX5_takes 252 = .ok (.aload_n 2, 1) := by decide +kernel
theorem dX5_takes_253 : decode cX5_takes 253 = .ok (.getfield 77, 3) := by decide +kernel
theorem dX5_takes_256 : decode cX5_takes 256 = .ok (.iconst (-1), 1) := by decide +kernel
theorem dX5_takes_257 : decode cX5_takes 257 = .ok (.if_icmp .eq 7, 3) := by decide +kernel
theorem dX5_takes_260 : decode cX5_takes 260 = .ok (.iconst 1, 1) := by decide +kernel
theorem dX5_takes_261 : decode cX5_takes 261 = .ok (.goto 4, 3) := by decide +kernel
theorem dX5_takes_264 : decode cX5_takes 264 = .ok (.iconst 0, 1) := by decide +kernel
theorem dX5_takes_265 : decode cX5_takes 265 = .ok (.ireturn, 1) := by decide +kernel
theorem dX5_takes_266 : decode cX5_takes 266 = .ok (.aload_n 0, 1) := by decide +kernel
theorem dX5_takes_267 : decode cX5_takes 267 = .ok (.bipush 8, 2) := by decide +kernel
theorem dX5_takes_269 : decode cX5_takes 269 = .ok (.putfield 24, 3) := by decide +kernel
theorem dX5_takes_272 : decode cX5_takes 272 = .ok (.aload_n 0, 1) := by decide +kernel
theorem dX5_takes_273 : decode cX5_takes 273 = .ok (.iload_n 1, 1) := by decide +kernel
theorem dX5_takes_274 : decode cX5_takes 274 = .ok (.invokevirtual 42, 3) := by decide +kernel
theorem dX5_takes_277 : decode cX5_takes 277 = .ok (.bipush 59, 2) := by decide +kernel
theorem dX5_takes_279 : decode cX5_takes 279 = .ok (.if_icmp .ne 7, 3) := by decide +kernel
theorem dX5_takes_282 : decode cX5_takes 282 = .ok (.iconst 1, 1) := by decide +kernel
theorem dX5_takes_283 : decode cX5_takes 283 = .ok (.goto 4, 3) := by decide +kernel
theorem dX5_takes_286 : decode cX5_takes 286 = .ok (.iconst 0, 1) := by decide +kernel
theorem dX5_takes_287 : decode cX5_takes 287 = .ok (.ireturn, 1) := by decide +kernel
theorem dX5_takes_288 : decode cX5_takes 288 = .ok (.aload_n 0, 1) := by decide +kernel
theorem dX5_takes_289 : decode cX5_takes 289 = .ok (.aload_n 0, 1) := by decide +kernel
theorem dX5_takes_290 : decode cX5_takes 290 = .ok (.iload_n 1, 1) := by decide +kernel
theorem dX5_takes_291 : decode cX5_takes 291 = .ok (.invokevirtual 42, 3) := by decide +kernel
theorem dX5_takes_294 : decode cX5_takes 294 = .ok (.invokevirtual 80, 3) := by decide +kernel
theorem dX5_takes_297 : decode cX5_takes 297 = .ok (.ireturn, 1) := by decide +kernel
theorem dX5_takesSort_0 : decode cX5_takesSort 0 = .ok (.iload_n 1, 1) := by decide +kernel
theorem dX5_takesSort_1 : decode cX5_takesSort 1 = .ok (.lookupswitch 71 #[(98, 59), (99, 47), (114, 35)], 35) := by decide +kernel
theorem dX5_takesSort_36 : decode cX5_takesSort 36 = .ok (.aload_n 2, 1) := by decide +kernel
theorem dX5_takesSort_37 : decode cX5_takesSort 37 = .ok (.iconst 0, 1) := by decide +kernel
theorem dX5_takesSort_38 : decode cX5_takesSort 38 = .ok (.putfield 83, 3) := by decide +kernel
theorem dX5_takesSort_41 : decode cX5_takesSort 41 = .ok (.aload_n 0, 1) := by decide +kernel
theorem dX5_takesSort_42 : decode cX5_takesSort 42 = .ok (.iconst 1, 1) := by decide +kernel
theorem dX5_takesSort_43 : decode cX5_takesSort 43 = .ok (.putfield 24, 3) := by decide +kernel
theorem dX5_takesSort_46 : decode cX5_takesSort 46 = .ok (.iconst 1, 1) := by decide +kernel
theorem dX5_takesSort_47 : decode cX5_takesSort 47 = .ok (.ireturn, 1) := by decide +kernel
theorem dX5_takesSort_48 : decode cX5_takesSort 48 = .ok (.aload_n 2, 1) := by decide +kernel
theorem dX5_takesSort_49 : decode cX5_takesSort 49 = .ok (.iconst 1, 1) := by decide +kernel
theorem dX5_takesSort_50 : decode cX5_takesSort 50 = .ok (.putfield 83, 3) := by decide +kernel
theorem dX5_takesSort_53 : decode cX5_takesSort 53 = .ok (.aload_n 0, 1) := by decide +kernel
theorem dX5_takesSort_54 : decode cX5_takesSort 54 = .ok (.iconst 3, 1) := by decide +kernel
theorem dX5_takesSort_55 : decode cX5_takesSort 55 = .ok (.putfield 24, 3) := by decide +kernel
theorem dX5_takesSort_58 : decode cX5_takesSort 58 = .ok (.iconst 1, 1) := by decide +kernel
theorem dX5_takesSort_59 : decode cX5_takesSort 59 = .ok (.ireturn, 1) := by decide +kernel
theorem dX5_takesSort_60 : decode cX5_takesSort 60 = .ok (.aload_n 2, 1) := by decide +kernel
theorem dX5_takesSort_61 : decode cX5_takesSort 61 = .ok (.iconst 2, 1) := by decide +kernel
theorem dX5_takesSort_62 : decode cX5_takesSort 62 = .ok (.putfield 83, 3) := by decide +kernel
theorem dX5_takesSort_65 : decode cX5_takesSort 65 = .ok (.aload_n 0, 1) := by decide +kernel
theorem dX5_takesSort_66 : decode cX5_takesSort 66 = .ok (.iconst 4, 1) := by decide +kernel
theorem dX5_takesSort_67 : decode cX5_takesSort 67 = .ok (.putfield 24, 3) := by decide +kernel
theorem dX5_takesSort_70 : decode cX5_takesSort 70 = .ok (.iconst 1, 1) := by decide +kernel
theorem dX5_takesSort_71 : decode cX5_takesSort 71 = .ok (.ireturn, 1) := by decide +kernel
theorem dX5_takesSort_72 : decode cX5_takesSort 72 = .ok (.iconst 0, 1) := by decide +kernel
theorem dX5_takesSort_73 : decode cX5_takesSort 73 = .ok (.ireturn, 1) := by decide +kernel
theorem dX5_takesRate_0 : decode cX5_takesRate 0 = .ok (.iload_n 1, 1) := by decide +kernel
theorem dX5_takesRate_1 : decode cX5_takesRate 1 = .ok (.bipush 112, 2) := by decide +kernel
theorem dX5_takesRate_3 : decode cX5_takesRate 3 = .ok (.if_icmp .ne 22, 3) := by decide +kernel
theorem dX5_takesRate_6 : decode cX5_takesRate 6 = .ok (.aload_n 0, 1) := by decide +kernel
theorem dX5_takesRate_7 : decode cX5_takesRate 7 = .ok (.getfield 27, 3) := by decide +kernel
theorem dX5_takesRate_10 : decode cX5_takesRate 10 = .ok (.ifCond .ne 15, 3) := by decide +kernel
theorem dX5_takesRate_13 : decode cX5_takesRate 13 = .ok (.aload_n 0, 1) := by decide +kernel
theorem dX5_takesRate_14 : decode cX5_takesRate 14 = .ok (.iconst 1, 1) := by decide +kernel
theorem dX5_takesRate_15 : decode cX5_takesRate 15 = .ok (.putfield 27, 3) := by decide +kernel
theorem dX5_takesRate_18 : decode cX5_takesRate 18 = .ok (.aload_n 0, 1) := by decide +kernel
theorem dX5_takesRate_19 : decode cX5_takesRate 19 = .ok (.iconst 5, 1) := by decide +kernel
theorem dX5_takesRate_20 : decode cX5_takesRate 20 = .ok (.putfield 24, 3) := by decide +kernel
theorem dX5_takesRate_23 : decode cX5_takesRate 23 = .ok (.iconst 1, 1) := by decide +kernel
theorem dX5_takesRate_24 : decode cX5_takesRate 24 = .ok (.ireturn, 1) := by decide +kernel
theorem dX5_takesRate_25 : decode cX5_takesRate 25 = .ok (.iload_n 1, 1) := by decide +kernel
theorem dX5_takesRate_26 : decode cX5_takesRate 26 = .ok (.bipush 113, 2) := by decide +kernel
theorem dX5_takesRate_28 : decode cX5_takesRate 28 = .ok (.if_icmp .ne 23, 3) := by decide +kernel
theorem dX5_takesRate_31 : decode cX5_takesRate 31 = .ok (.aload_n 0, 1) := by decide +kernel
theorem dX5_takesRate_32 : decode cX5_takesRate 32 = .ok (.getfield 31, 3) := by decide +kernel
theorem dX5_takesRate_35 : decode cX5_takesRate 35 = .ok (.ifCond .ne 16, 3) := by decide +kernel
theorem dX5_takesRate_38 : decode cX5_takesRate 38 = .ok (.aload_n 0, 1) := by decide +kernel
theorem dX5_takesRate_39 : decode cX5_takesRate 39 = .ok (.iconst 1, 1) := by decide +kernel
theorem dX5_takesRate_40 : decode cX5_takesRate 40 = .ok (.putfield 31, 3) := by decide +kernel
theorem dX5_takesRate_43 : decode cX5_takesRate 43 = .ok (.aload_n 0, 1) := by decide +kernel
theorem dX5_takesRate_44 : decode cX5_takesRate 44 = .ok (.bipush 6, 2) := by decide +kernel
theorem dX5_takesRate_46 : decode cX5_takesRate 46 = .ok (.putfield 24, 3) := by decide +kernel
theorem dX5_takesRate_49 : decode cX5_takesRate 49 = .ok (.iconst 1, 1) := by decide +kernel
theorem dX5_takesRate_50 : decode cX5_takesRate 50 = .ok (.ireturn, 1) := by decide +kernel
theorem dX5_takesRate_51 : decode cX5_takesRate 51 = .ok (.iconst 0, 1) := by decide +kernel
theorem dX5_takesRate_52 : decode cX5_takesRate 52 = .ok (.ireturn, 1) := by decide +kernel
theorem dX5_figureAt_0 : decode cX5_figureAt 0 = .ok (.aload_n 0, 1) := by decide +kernel
theorem dX5_figureAt_1 : decode cX5_figureAt 1 = .ok (.iload_n 1, 1) := by decide +kernel
theorem dX5_figureAt_2 : decode cX5_figureAt 2 = .ok (.invokevirtual 42, 3) := by decide +kernel
theorem dX5_figureAt_5 : decode cX5_figureAt 5 = .ok (.bipush 48, 2) := by decide +kernel
theorem dX5_figureAt_7 : decode cX5_figureAt 7 = .ok (.isub, 1) := by decide +kernel
theorem dX5_figureAt_8 : decode cX5_figureAt 8 = .ok (.istore 4, 2) := by decide +kernel
theorem dX5_figureAt_10 : decode cX5_figureAt 10 = .ok (.aload_n 0, 1) := by decide +kernel
theorem dX5_figureAt_11 : decode cX5_figureAt 11 = .ok (.iload_n 1, 1) := by decide +kernel
theorem dX5_figureAt_12 : decode cX5_figureAt 12 = .ok (.invokevirtual 68, 3) := by decide +kernel
theorem dX5_figureAt_15 : decode cX5_figureAt 15 = .ok (.iconst 1, 1) := by decide +kernel
theorem dX5_figureAt_16 : decode cX5_figureAt 16 = .ok (.if_icmp .ne 15, 3) := by decide +kernel
theorem dX5_figureAt_19 : decode cX5_figureAt 19 = .ok (.iload 4, 2) := by decide +kernel
theorem dX5_figureAt_21 : decode cX5_figureAt 21 = .ok (.iload_n 2, 1) := by decide +kernel
theorem dX5_figureAt_22 : decode cX5_figureAt 22 = .ok (.if_icmp .lt 9, 3) := by decide +kernel
theorem dX5_figureAt_25 : decode cX5_figureAt 25 = .ok (.iload 4, 2) := by decide +kernel
theorem dX5_figureAt_27 : decode cX5_figureAt 27 = .ok (.iload_n 3, 1) := by decide +kernel
theorem dX5_figureAt_28 : decode cX5_figureAt 28 = .ok (.if_icmp .le 7, 3) := by decide +kernel
theorem dX5_figureAt_31 : decode cX5_figureAt 31 = .ok (.iconst (-1), 1) := by decide +kernel
theorem dX5_figureAt_32 : decode cX5_figureAt 32 = .ok (.goto 5, 3) := by decide +kernel
theorem dX5_figureAt_35 : decode cX5_figureAt 35 = .ok (.iload 4, 2) := by decide +kernel
theorem dX5_figureAt_37 : decode cX5_figureAt 37 = .ok (.ireturn, 1) := by decide +kernel
theorem dX5_bitsAt_0 : decode cX5_bitsAt 0 = .ok (.iload_n 2, 1) := by decide +kernel
theorem dX5_bitsAt_1 : decode cX5_bitsAt 1 = .ok (.iconst 2, 1) := by decide +kernel
theorem dX5_bitsAt_2 : decode cX5_bitsAt 2 = .ok (.if_icmp .lt 8, 3) := by decide +kernel
theorem dX5_bitsAt_5 : decode cX5_bitsAt 5 = .ok (.iload_n 2, 1) := by decide +kernel
theorem dX5_bitsAt_6 : decode cX5_bitsAt 6 = .ok (.iconst 5, 1) := by decide +kernel
theorem dX5_bitsAt_7 : decode cX5_bitsAt 7 = .ok (.if_icmp .le 5, 3) := by decide +kernel
theorem dX5_bitsAt_10 : decode cX5_bitsAt 10 = .ok (.iconst (-1), 1) := by decide +kernel
theorem dX5_bitsAt_11 : decode cX5_bitsAt 11 = .ok (.ireturn, 1) := by decide +kernel
theorem dX5_bitsAt_12 : decode cX5_bitsAt 12 = .ok (.iconst 0, 1) := by decide +kernel
theorem dX5_bitsAt_13 : decode cX5_bitsAt 13 = .ok (.istore_n 3, 1) := by decide +kernel
theorem dX5_bitsAt_14 : decode cX5_bitsAt 14 = .ok (.iconst 0, 1) := by decide +kernel
theorem dX5_bitsAt_15 : decode cX5_bitsAt 15 = .ok (.istore 4, 2) := by decide +kernel
theorem dX5_bitsAt_17 : decode cX5_bitsAt 17 = .ok (.iload 4, 2) := by decide +kernel
theorem dX5_bitsAt_19 : decode cX5_bitsAt 19 = .ok (.iload_n 2, 1) := by decide +kernel
theorem dX5_bitsAt_20 : decode cX5_bitsAt 20 = .ok (.if_icmp .ge 42, 3) := by decide +kernel
theorem dX5_bitsAt_23 : decode cX5_bitsAt 23 = .ok (.aload_n 0, 1) := by decide +kernel
theorem dX5_bitsAt_24 : decode cX5_bitsAt 24 = .ok (.iload_n 1, 1) := by decide +kernel
theorem dX5_bitsAt_25 : decode cX5_bitsAt 25 = .ok (.iload 4, 2) := by decide +kernel
theorem dX5_bitsAt_27 : decode cX5_bitsAt 27 = .ok (.iadd, 1) := by decide +kernel
theorem dX5_bitsAt_28 : decode cX5_bitsAt 28 = .ok (.invokevirtual 42, 3) := by decide +kernel
theorem dX5_bitsAt_31 : decode cX5_bitsAt 31 = .ok (.bipush 48, 2) := by decide +kernel
theorem dX5_bitsAt_33 : decode cX5_bitsAt 33 = .ok (.isub, 1) := by decide +kernel
theorem dX5_bitsAt_34 : decode cX5_bitsAt 34 = .ok (.istore 5, 2) := by decide +kernel
theorem dX5_bitsAt_36 : decode cX5_bitsAt 36 = .ok (.iload 5, 2) := by decide +kernel
theorem dX5_bitsAt_38 : decode cX5_bitsAt 38 = .ok (.ifCond .lt 9, 3) := by decide +kernel
theorem dX5_bitsAt_41 : decode cX5_bitsAt 41 = .ok (.iload 5, 2) := by decide +kernel
theorem dX5_bitsAt_43 : decode cX5_bitsAt 43 = .ok (.iconst 1, 1) := by decide +kernel
theorem dX5_bitsAt_44 : decode cX5_bitsAt 44 = .ok (.if_icmp .le 5, 3) := by decide +kernel
theorem dX5_bitsAt_47 : decode cX5_bitsAt 47 = .ok (.iconst (-1), 1) := by decide +kernel
theorem dX5_bitsAt_48 : decode cX5_bitsAt 48 = .ok (.ireturn, 1) := by decide +kernel
theorem dX5_bitsAt_49 : decode cX5_bitsAt 49 = .ok (.iload_n 3, 1) := by decide +kernel
theorem dX5_bitsAt_50 : decode cX5_bitsAt 50 = .ok (.iconst 1, 1) := by decide +kernel
theorem dX5_bitsAt_51 : decode cX5_bitsAt 51 = .ok (.ishl, 1) := by decide +kernel
theorem dX5_bitsAt_52 : decode cX5_bitsAt 52 = .ok (.iload 5, 2) := by decide +kernel
theorem dX5_bitsAt_54 : decode cX5_bitsAt 54 = .ok (.ior, 1) := by decide +kernel
theorem dX5_bitsAt_55 : decode cX5_bitsAt 55 = .ok (.istore_n 3, 1) := by decide +kernel
theorem dX5_bitsAt_56 : decode cX5_bitsAt 56 = .ok (.iinc 4 1, 3) := by decide +kernel
theorem dX5_bitsAt_59 : decode cX5_bitsAt 59 = .ok (.goto (-42), 3) := by decide +kernel
theorem dX5_bitsAt_62 : decode cX5_bitsAt 62 = .ok (.iload_n 3, 1) := by decide +kernel
theorem dX5_bitsAt_63 : decode cX5_bitsAt 63 = .ok (.ireturn, 1) := by decide +kernel
theorem dX6_init_0 : decode cX6_init 0 = .ok (.aload_n 0, 1) := by decide +kernel
theorem dX6_init_1 : decode cX6_init 1 = .ok (.invokespecial 1, 3) := by decide +kernel
theorem dX6_init_4 : decode cX6_init 4 = .ok (.aload_n 0, 1) := by decide +kernel
theorem dX6_init_5 : decode cX6_init 5 = .ok (.new 7, 3) := by decide +kernel
theorem dX6_init_8 : decode cX6_init 8 = .ok (.dup, 1) := by decide +kernel
theorem dX6_init_9 : decode cX6_init 9 = .ok (.invokespecial 9, 3) := by decide +kernel
theorem dX6_init_12 : decode cX6_init 12 = .ok (.putfield 10, 3) := by decide +kernel
theorem dX6_init_15 : decode cX6_init 15 = .ok (.aload_n 0, 1) := by decide +kernel
theorem dX6_init_16 : decode cX6_init 16 = .ok (.new 16, 3) := by decide +kernel
theorem dX6_init_19 : decode cX6_init 19 = .ok (.dup, 1) := by decide +kernel
theorem dX6_init_20 : decode cX6_init 20 = .ok (.invokespecial 18, 3) := by decide +kernel
theorem dX6_init_23 : decode cX6_init 23 = .ok (.putfield 19, 3) := by decide +kernel
theorem dX6_init_26 : decode cX6_init 26 = .ok (.aload_n 0, 1) := by decide +kernel
theorem dX6_init_27 : decode cX6_init 27 = .ok (.new 23, 3) := by decide +kernel
theorem dX6_init_30 : decode cX6_init 30 = .ok (.dup, 1) := by decide +kernel
theorem dX6_init_31 : decode cX6_init 31 = .ok (.invokespecial 25, 3) := by decide +kernel
theorem dX6_init_34 : decode cX6_init 34 = .ok (.putfield 26, 3) := by decide +kernel
theorem dX6_init_37 : decode cX6_init 37 = .ok (.aload_n 0, 1) := by decide +kernel
theorem dX6_init_38 : decode cX6_init 38 = .ok (.new 30, 3) := by decide +kernel
theorem dX6_init_41 : decode cX6_init 41 = .ok (.dup, 1) := by decide +kernel
theorem dX6_init_42 : decode cX6_init 42 = .ok (.invokespecial 32, 3) := by decide +kernel
theorem dX6_init_45 : decode cX6_init 45 = .ok (.putfield 33, 3) := by decide +kernel
theorem dX6_init_48 : decode cX6_init 48 = .ok (.aload_n 0, 1) := by decide +kernel
theorem dX6_init_49 : decode cX6_init 49 = .ok (.new 37, 3) := by decide +kernel
theorem dX6_init_52 : decode cX6_init 52 = .ok (.dup, 1) := by decide +kernel
theorem dX6_init_53 : decode cX6_init 53 = .ok (.invokespecial 39, 3) := by decide +kernel
theorem dX6_init_56 : decode cX6_init 56 = .ok (.putfield 40, 3) := by decide +kernel
theorem dX6_init_59 : decode cX6_init 59 = .ok (.aload_n 0, 1) := by decide +kernel
theorem dX6_init_60 : decode cX6_init 60 = .ok (.bipush 6, 2) := by decide +kernel
theorem dX6_init_62 : decode cX6_init 62 = .ok (.anewarray 23, 3) := by decide +kernel
theorem dX6_init_65 : decode cX6_init 65 = .ok (.putfield 44, 3) := by decide +kernel
theorem dX6_init_68 : decode cX6_init 68 = .ok (.iconst 0, 1) := by decide +kernel
theorem dX6_init_69 : decode cX6_init 69 = .ok (.istore_n 1, 1) := by decide +kernel
theorem dX6_init_70 : decode cX6_init 70 = .ok (.iload_n 1, 1) := by decide +kernel
theorem dX6_init_71 : decode cX6_init 71 = .ok (.bipush 6, 2) := by decide +kernel
theorem dX6_init_73 : decode cX6_init 73 = .ok (.if_icmp .ge 22, 3) := by decide +kernel
theorem dX6_init_76 : decode cX6_init 76 = .ok (.aload_n 0, 1) := by decide +kernel
theorem dX6_init_77 : decode cX6_init 77 = .ok (.getfield 44, 3) := by decide +kernel
theorem dX6_init_80 : decode cX6_init 80 = .ok (.iload_n 1, 1) := by decide +kernel
theorem dX6_init_81 : decode cX6_init 81 = .ok (.new 23, 3) := by decide +kernel
theorem dX6_init_84 : decode cX6_init 84 = .ok (.dup, 1) := by decide +kernel
theorem dX6_init_85 : decode cX6_init 85 = .ok (.invokespecial 25, 3) := by decide +kernel
theorem dX6_init_88 : decode cX6_init 88 = .ok (.aastore, 1) := by decide +kernel
theorem dX6_init_89 : decode cX6_init 89 = .ok (.iinc 1 1, 3) := by decide +kernel
theorem dX6_init_92 : decode cX6_init 92 = .ok (.goto (-22), 3) := by decide +kernel
theorem dX6_init_95 : decode cX6_init 95 = .ok (.aload_n 0, 1) := by decide +kernel
theorem dX6_init_96 : decode cX6_init 96 = .ok (.iconst 2, 1) := by decide +kernel
theorem dX6_init_97 : decode cX6_init 97 = .ok (.anewarray 23, 3) := by decide +kernel
theorem dX6_init_100 : decode cX6_init 100 = .ok (.putfield 48, 3) := by decide +kernel
theorem dX6_init_103 : decode cX6_init 103 = .ok (.iconst 0, 1) := by decide +kernel
theorem dX6_init_104 : decode cX6_init 104 = .ok (.istore_n 1, 1) := by decide +kernel
theorem dX6_init_105 : decode cX6_init 105 = .ok (.iload_n 1, 1) := by decide +kernel
theorem dX6_init_106 : decode cX6_init 106 = .ok (.iconst 2, 1) := by decide +kernel
theorem dX6_init_107 : decode cX6_init 107 = .ok (.if_icmp .ge 22, 3) := by decide +kernel
theorem dX6_init_110 : decode cX6_init 110 = .ok (.aload_n 0, 1) := by decide +kernel
theorem dX6_init_111 : decode cX6_init 111 = .ok (.getfield 48, 3) := by decide +kernel
theorem dX6_init_114 : decode cX6_init 114 = .ok (.iload_n 1, 1) := by decide +kernel
theorem dX6_init_115 : decode cX6_init 115 = .ok (.new 23, 3) := by decide +kernel
theorem dX6_init_118 : decode cX6_init 118 = .ok (.dup, 1) := by decide +kernel
theorem dX6_init_119 : decode cX6_init 119 = .ok (.invokespecial 25, 3) := by decide +kernel
theorem dX6_init_122 : decode cX6_init 122 = .ok (.aastore, 1) := by decide +kernel
theorem dX6_init_123 : decode cX6_init 123 = .ok (.iinc 1 1, 3) := by decide +kernel
theorem dX6_init_126 : decode cX6_init 126 = .ok (.goto (-21), 3) := by decide +kernel
theorem dX6_init_129 : decode cX6_init 129 = .ok (.aload_n 0, 1) := by decide +kernel
theorem dX6_init_130 : decode cX6_init 130 = .ok (.iconst 2, 1) := by decide +kernel
theorem dX6_init_131 : decode cX6_init 131 = .ok (.newarray .boolean, 2) := by decide +kernel
theorem dX6_init_133 : decode cX6_init 133 = .ok (.putfield 51, 3) := by decide +kernel
theorem dX6_init_136 : decode cX6_init 136 = .ok (.aload_n 0, 1) := by decide +kernel
theorem dX6_init_137 : decode cX6_init 137 = .ok (.bipush 6, 2) := by decide +kernel
theorem dX6_init_139 : decode cX6_init 139 = .ok (.newarray .int, 2) := by decide +kernel
theorem dX6_init_141 : decode cX6_init 141 = .ok (.putfield 55, 3) := by decide +kernel
theorem dX6_init_144 : decode cX6_init 144 = .ok (.aload_n 0, 1) := by decide +kernel
theorem dX6_init_145 : decode cX6_init 145 = .ok (.getfield 33, 3) := by decide +kernel
theorem dX6_init_148 : decode cX6_init 148 = .ok (.aload_n 0, 1) := by decide +kernel
theorem dX6_init_149 : decode cX6_init 149 = .ok (.getfield 26, 3) := by decide +kernel
theorem dX6_init_152 : decode cX6_init 152 = .ok (.getfield 59, 3) := by decide +kernel
theorem dX6_init_155 : decode cX6_init 155 = .ok (.invokevirtual 62, 3) := by decide +kernel
theorem dX6_init_158 : decode cX6_init 158 = .ok (.aload_n 0, 1) := by decide +kernel
theorem dX6_init_159 : decode cX6_init 159 = .ok (.getfield 26, 3) := by decide +kernel
theorem dX6_init_162 : decode cX6_init 162 = .ok (.getfield 66, 3) := by decide +kernel
theorem dX6_init_165 : decode cX6_init 165 = .ok (.aload_n 0, 1) := by decide +kernel
theorem dX6_init_166 : decode cX6_init 166 = .ok (.getfield 33, 3) := by decide +kernel
theorem dX6_init_169 : decode cX6_init 169 = .ok (.getfield 70, 3) := by decide +kernel
theorem dX6_init_172 : decode cX6_init 172 = .ok (.invokevirtual 74, 3) := by decide +kernel
theorem dX6_init_175 : decode cX6_init 175 = .ok (.return_, 1) := by decide +kernel
theorem dX6_type_0 : decode cX6_type 0 = .ok (.iload_n 1, 1) := by decide +kernel
theorem dX6_type_1 : decode cX6_type 1 = .ok (.ifCond .lt 10, 3) := by decide +kernel
theorem dX6_type_4 : decode cX6_type 4 = .ok (.iload_n 1, 1) := by decide +kernel
theorem dX6_type_5 : decode cX6_type 5 = .ok (.sipush 255, 3) := by decide +kernel
theorem dX6_type_8 : decode cX6_type 8 = .ok (.if_icmp .le 5, 3) := by decide +kernel
theorem dX6_type_11 : decode cX6_type 11 = .ok (.iconst (-1), 1) := by decide +kernel
theorem dX6_type_12 : decode cX6_type 12 = .ok (.ireturn, 1) := by decide +kernel
theorem dX6_type_13 : decode cX6_type 13 = .ok (.aload_n 0, 1) := by decide +kernel
theorem dX6_type_14 : decode cX6_type 14 = .ok (.getfield 10, 3) := by decide +kernel
theorem dX6_type_17 : decode cX6_type 17 = .ok (.getfield 80, 3) := by decide +kernel
theorem dX6_type_20 : decode cX6_type 20 = .ok (.bipush 60, 2) := by decide +kernel
theorem dX6_type_22 : decode cX6_type 22 = .ok (.if_icmp .lt 6, 3) := by decide +kernel
theorem dX6_type_25 : decode cX6_type 25 = .ok (.bipush (-3), 2) := by decide +kernel
theorem dX6_type_27 : decode cX6_type 27 = .ok (.ireturn, 1) := by decide +kernel
theorem dX6_type_28 : decode cX6_type 28 = .ok (.aload_n 0, 1) := by decide +kernel
theorem dX6_type_29 : decode cX6_type 29 = .ok (.getfield 10, 3) := by decide +kernel
theorem dX6_type_32 : decode cX6_type 32 = .ok (.iload_n 1, 1) := by decide +kernel
theorem dX6_type_33 : decode cX6_type 33 = .ok (.invokevirtual 83, 3) := by decide +kernel
theorem dX6_type_36 : decode cX6_type 36 = .ok (.aload_n 0, 1) := by decide +kernel
theorem dX6_type_37 : decode cX6_type 37 = .ok (.getfield 10, 3) := by decide +kernel
theorem dX6_type_40 : decode cX6_type 40 = .ok (.getfield 80, 3) := by decide +kernel
theorem dX6_type_43 : decode cX6_type 43 = .ok (.ireturn, 1) := by decide +kernel
theorem dX6_clear_0 : decode cX6_clear 0 = .ok (.aload_n 0, 1) := by decide +kernel
theorem dX6_clear_1 : decode cX6_clear 1 = .ok (.getfield 10, 3) := by decide +kernel
theorem dX6_clear_4 : decode cX6_clear 4 = .ok (.getfield 80, 3) := by decide +kernel
theorem dX6_clear_7 : decode cX6_clear 7 = .ok (.istore_n 1, 1) := by decide +kernel
theorem dX6_clear_8 : decode cX6_clear 8 = .ok (.aload_n 0, 1) := by decide +kernel
theorem dX6_clear_9 : decode cX6_clear 9 = .ok (.getfield 10, 3) := by decide +kernel
theorem dX6_clear_12 : decode cX6_clear 12 = .ok (.iconst 0, 1) := by decide +kernel
theorem dX6_clear_13 : decode cX6_clear 13 = .ok (.putfield 80, 3) := by decide +kernel
theorem dX6_clear_16 : decode cX6_clear 16 = .ok (.iload_n 1, 1) := by decide +kernel
theorem dX6_clear_17 : decode cX6_clear 17 = .ok (.ireturn, 1) := by decide +kernel
theorem dX6_tells_0 : decode cX6_tells 0 = .ok (.aload_n 0, 1) := by decide +kernel
theorem dX6_tells_1 : decode cX6_tells 1 = .ok (.getfield 10, 3) := by decide +kernel
theorem dX6_tells_4 : decode cX6_tells 4 = .ok (.aload_n 0, 1) := by decide +kernel
theorem dX6_tells_5 : decode cX6_tells 5 = .ok (.getfield 19, 3) := by decide +kernel
theorem dX6_tells_8 : decode cX6_tells 8 = .ok (.invokevirtual 86, 3) := by decide +kernel
theorem dX6_tells_11 : decode cX6_tells 11 = .ok (.istore_n 1, 1) := by decide +kernel
theorem dX6_tells_12 : decode cX6_tells 12 = .ok (.iload_n 1, 1) := by decide +kernel
theorem dX6_tells_13 : decode cX6_tells 13 = .ok (.iconst (-1), 1) := by decide +kernel
theorem dX6_tells_14 : decode cX6_tells 14 = .ok (.if_icmp .eq 8, 3) := by decide +kernel
theorem dX6_tells_17 : decode cX6_tells 17 = .ok (.bipush (-10), 2) := by decide +kernel
theorem dX6_tells_19 : decode cX6_tells 19 = .ok (.iload_n 1, 1) := by decide +kernel
theorem dX6_tells_20 : decode cX6_tells 20 = .ok (.isub, 1) := by decide +kernel
theorem dX6_tells_21 : decode cX6_tells 21 = .ok (.ireturn, 1) := by decide +kernel
theorem dX6_tells_22 : decode cX6_tells 22 = .ok (.aload_n 0, 1) := by decide +kernel
theorem dX6_tells_23 : decode cX6_tells 23 = .ok (.invokevirtual 90, 3) := by decide +kernel
theorem dX6_tells_26 : decode cX6_tells 26 = .ok (.aload_n 0, 1) := by decide +kernel
theorem dX6_tells_27 : decode cX6_tells 27 = .ok (.getfield 26, 3) := by decide +kernel
theorem dX6_tells_30 : decode cX6_tells 30 = .ok (.getfield 59, 3) := by decide +kernel
theorem dX6_tells_33 : decode cX6_tells 33 = .ok (.aload_n 0, 1) := by decide +kernel
theorem dX6_tells_34 : decode cX6_tells 34 = .ok (.getfield 19, 3) := by decide +kernel
theorem dX6_tells_37 : decode cX6_tells 37 = .ok (.invokevirtual 93, 3) := by decide +kernel
theorem dX6_tells_40 : decode cX6_tells 40 = .ok (.aload_n 0, 1) := by decide +kernel
theorem dX6_tells_41 : decode cX6_tells 41 = .ok (.getfield 33, 3) := by decide +kernel
theorem dX6_tells_44 : decode cX6_tells 44 = .ok (.aload_n 0, 1) := by decide +kernel
theorem dX6_tells_45 : decode cX6_tells 45 = .ok (.getfield 26, 3) := by decide +kernel
theorem dX6_tells_48 : decode cX6_tells 48 = .ok (.getfield 59, 3) := by decide +kernel
theorem dX6_tells_51 : decode cX6_tells 51 = .ok (.invokevirtual 62, 3) := by decide +kernel
theorem dX6_tells_54 : decode cX6_tells 54 = .ok (.aload_n 0, 1) := by decide +kernel
theorem dX6_tells_55 : decode cX6_tells 55 = .ok (.getfield 26, 3) := by decide +kernel
theorem dX6_tells_58 : decode cX6_tells 58 = .ok (.getfield 66, 3) := by decide +kernel
theorem dX6_tells_61 : decode cX6_tells 61 = .ok (.aload_n 0, 1) := by decide +kernel
theorem dX6_tells_62 : decode cX6_tells 62 = .ok (.getfield 33, 3) := by decide +kernel
theorem dX6_tells_65 : decode cX6_tells 65 = .ok (.getfield 70, 3) := by decide +kernel
theorem dX6_tells_68 : decode cX6_tells 68 = .ok (.invokevirtual 74, 3) := by decide +kernel
theorem dX6_tells_71 : decode cX6_tells 71 = .ok (.aload_n 0, 1) := by decide +kernel
theorem dX6_tells_72 : decode cX6_tells 72 = .ok (.getfield 10, 3) := by decide +kernel
theorem dX6_tells_75 : decode cX6_tells 75 = .ok (.iconst 0, 1) := by decide +kernel
theorem dX6_tells_76 : decode cX6_tells 76 = .ok (.putfield 80, 3) := by decide +kernel
theorem dX6_tells_79 : decode cX6_tells 79 = .ok (.aload_n 0, 1) := by decide +kernel
theorem dX6_tells_80 : decode cX6_tells 80 = .ok (.iconst 0, 1) := by decide +kernel
theorem dX6_tells_81 : decode cX6_tells 81 = .ok (.putfield 96, 3) := by decide +kernel
theorem dX6_tells_84 : decode cX6_tells 84 = .ok (.iconst 0, 1) := by decide +kernel
theorem dX6_tells_85 : decode cX6_tells 85 = .ok (.istore_n 2, 1) := by decide +kernel
theorem dX6_tells_86 : decode cX6_tells 86 = .ok (.iload_n 2, 1) := by decide +kernel
theorem dX6_tells_87 : decode cX6_tells 87 = .ok (.iconst 2, 1) := by decide +kernel
theorem dX6_tells_88 : decode cX6_tells 88 = .ok (.if_icmp .ge 16, 3) := by decide +kernel
theorem dX6_tells_91 : decode cX6_tells 91 = .ok (.aload_n 0, 1) := by decide +kernel
theorem dX6_tells_92 : decode cX6_tells 92 = .ok (.getfield 51, 3) := by decide +kernel
theorem dX6_tells_95 : decode cX6_tells 95 = .ok (.iload_n 2, 1) := by decide +kernel
theorem dX6_tells_96 : decode cX6_tells 96 = .ok (.iconst 0, 1) := by decide +kernel
theorem dX6_tells_97 : decode cX6_tells 97 = .ok (.bastore, 1) := by decide +kernel
theorem dX6_tells_98 : decode cX6_tells 98 = .ok (.iinc 2 1, 3) := by decide +kernel
theorem dX6_tells_101 : decode cX6_tells 101 = .ok (.goto (-15), 3) := by decide +kernel
theorem dX6_tells_104 : decode cX6_tells 104 = .ok (.aload_n 0, 1) := by decide +kernel
theorem dX6_tells_105 : decode cX6_tells 105 = .ok (.getfield 33, 3) := by decide +kernel
theorem dX6_tells_108 : decode cX6_tells 108 = .ok (.getfield 99, 3) := by decide +kernel
theorem dX6_tells_111 : decode cX6_tells 111 = .ok (.ireturn, 1) := by decide +kernel
theorem dX6_sends_0 : decode cX6_sends 0 = .ok (.iload_n 1, 1) := by decide +kernel
theorem dX6_sends_1 : decode cX6_sends 1 = .ok (.ifCond .lt 17, 3) := by decide +kernel
theorem dX6_sends_4 : decode cX6_sends 4 = .ok (.iload_n 1, 1) := by decide +kernel
theorem dX6_sends_5 : decode cX6_sends 5 = .ok (.aload_n 0, 1) := by decide +kernel
theorem dX6_sends_6 : decode cX6_sends 6 = .ok (.getfield 26, 3) := by decide +kernel
theorem dX6_sends_9 : decode cX6_sends 9 = .ok (.getfield 59, 3) := by decide +kernel
theorem dX6_sends_12 : decode cX6_sends 12 = .ok (.invokevirtual 102, 3) := by decide +kernel
theorem dX6_sends_15 : decode cX6_sends 15 = .ok (.if_icmp .lt 5, 3) := by decide +kernel
theorem dX6_sends_18 : decode cX6_sends 18 = .ok (.iconst (-1), 1) := by decide +kernel
theorem dX6_sends_19 : decode cX6_sends 19 = .ok (.ireturn, 1) := by decide +kernel
theorem dX6_sends_20 : decode cX6_sends 20 = .ok (.aload_n 0, 1) := by decide +kernel
theorem dX6_sends_21 : decode cX6_sends 21 = .ok (.getfield 33, 3) := by decide +kernel
theorem dX6_sends_24 : decode cX6_sends 24 = .ok (.getfield 106, 3) := by decide +kernel
theorem dX6_sends_27 : decode cX6_sends 27 = .ok (.ifCond .ne 6, 3) := by decide +kernel
theorem dX6_sends_30 : decode cX6_sends 30 = .ok (.bipush (-2), 2) := by decide +kernel
theorem dX6_sends_32 : decode cX6_sends 32 = .ok (.ireturn, 1) := by decide +kernel
theorem dX6_sends_33 : decode cX6_sends 33 = .ok (.aload_n 0, 1) := by decide +kernel
theorem dX6_sends_34 : decode cX6_sends 34 = .ok (.getfield 26, 3) := by decide +kernel
theorem dX6_sends_37 : decode cX6_sends 37 = .ok (.getfield 66, 3) := by decide +kernel
theorem dX6_sends_40 : decode cX6_sends 40 = .ok (.astore_n 2, 1) := by decide +kernel
theorem dX6_sends_41 : decode cX6_sends 41 = .ok (.aload_n 2, 1) := by decide +kernel
theorem dX6_sends_42 : decode cX6_sends 42 = .ok (.getfield 109, 3) := by decide +kernel
theorem dX6_sends_45 : decode cX6_sends 45 = .ok (.bipush 24, 2) := by decide +kernel
theorem dX6_sends_47 : decode cX6_sends 47 = .ok (.if_icmp .lt 6, 3) := by decide +kernel
theorem dX6_sends_50 : decode cX6_sends 50 = .ok (.bipush (-3), 2) := by decide +kernel
theorem dX6_sends_52 : decode cX6_sends 52 = .ok (.ireturn, 1) := by decide +kernel
theorem dX6_sends_53 : decode cX6_sends 53 = .ok (.aload_n 0, 1) := by decide +kernel
theorem dX6_sends_54 : decode cX6_sends 54 = .ok (.invokevirtual 90, 3) := by decide +kernel
theorem dX6_sends_57 : decode cX6_sends 57 = .ok (.aload_n 0, 1) := by decide +kernel
theorem dX6_sends_58 : decode cX6_sends 58 = .ok (.getfield 33, 3) := by decide +kernel
theorem dX6_sends_61 : decode cX6_sends 61 = .ok (.aload_n 2, 1) := by decide +kernel
theorem dX6_sends_62 : decode cX6_sends 62 = .ok (.getfield 110, 3) := by decide +kernel
theorem dX6_sends_65 : decode cX6_sends 65 = .ok (.iload_n 1, 1) := by decide +kernel
theorem dX6_sends_66 : decode cX6_sends 66 = .ok (.invokevirtual 113, 3) := by decide +kernel
theorem dX6_sends_69 : decode cX6_sends 69 = .ok (.istore_n 3, 1) := by decide +kernel
theorem dX6_sends_70 : decode cX6_sends 70 = .ok (.aload_n 2, 1) := by decide +kernel
theorem dX6_sends_71 : decode cX6_sends 71 = .ok (.iload_n 3, 1) := by decide +kernel
theorem dX6_sends_72 : decode cX6_sends 72 = .ok (.iload_n 1, 1) := by decide +kernel
theorem dX6_sends_73 : decode cX6_sends 73 = .ok (.aload_n 0, 1) := by decide +kernel
theorem dX6_sends_74 : decode cX6_sends 74 = .ok (.getfield 33, 3) := by decide +kernel
theorem dX6_sends_77 : decode cX6_sends 77 = .ok (.aload_n 2, 1) := by decide +kernel
theorem dX6_sends_78 : decode cX6_sends 78 = .ok (.getfield 110, 3) := by decide +kernel
theorem dX6_sends_81 : decode cX6_sends 81 = .ok (.iload_n 3, 1) := by decide +kernel
theorem dX6_sends_82 : decode cX6_sends 82 = .ok (.invokevirtual 117, 3) := by decide +kernel
theorem dX6_sends_85 : decode cX6_sends 85 = .ok (.invokevirtual 120, 3) := by decide +kernel
theorem dX6_sends_88 : decode cX6_sends 88 = .ok (.iload_n 3, 1) := by decide +kernel
theorem dX6_sends_89 : decode cX6_sends 89 = .ok (.ireturn, 1) := by decide +kernel
theorem dX6_flips_0 : decode cX6_flips 0 = .ok (.aload_n 0, 1) := by decide +kernel
theorem dX6_flips_1 : decode cX6_flips 1 = .ok (.getfield 26, 3) := by decide +kernel
theorem dX6_flips_4 : decode cX6_flips 4 = .ok (.getfield 59, 3) := by decide +kernel
theorem dX6_flips_7 : decode cX6_flips 7 = .ok (.getfield 123, 3) := by decide +kernel
theorem dX6_flips_10 : decode cX6_flips 10 = .ok (.istore_n 2, 1) := by decide +kernel
theorem dX6_flips_11 : decode cX6_flips 11 = .ok (.iload_n 2, 1) := by decide +kernel
theorem dX6_flips_12 : decode cX6_flips 12 = .ok (.iconst 1, 1) := by decide +kernel
theorem dX6_flips_13 : decode cX6_flips 13 = .ok (.if_icmp .lt 23, 3) := by decide +kernel
theorem dX6_flips_16 : decode cX6_flips 16 = .ok (.iload_n 1, 1) := by decide +kernel
theorem dX6_flips_17 : decode cX6_flips 17 = .ok (.ifCond .lt 19, 3) := by decide +kernel
theorem dX6_flips_20 : decode cX6_flips 20 = .ok (.iload_n 1, 1) := by decide +kernel
theorem dX6_flips_21 : decode cX6_flips 21 = .ok (.aload_n 0, 1) := by decide +kernel
theorem dX6_flips_22 : decode cX6_flips 22 = .ok (.getfield 26, 3) := by decide +kernel
theorem dX6_flips_25 : decode cX6_flips 25 = .ok (.getfield 66, 3) := by decide +kernel
theorem dX6_flips_28 : decode cX6_flips 28 = .ok (.getfield 109, 3) := by decide +kernel
theorem dX6_flips_31 : decode cX6_flips 31 = .ok (.iload_n 2, 1) := by decide +kernel
theorem dX6_flips_32 : decode cX6_flips 32 = .ok (.imul, 1) := by decide +kernel
theorem dX6_flips_33 : decode cX6_flips 33 = .ok (.if_icmp .lt 5, 3) := by decide +kernel
theorem dX6_flips_36 : decode cX6_flips 36 = .ok (.iconst (-1), 1) := by decide +kernel
theorem dX6_flips_37 : decode cX6_flips 37 = .ok (.ireturn, 1) := by decide +kernel
theorem dX6_flips_38 : decode cX6_flips 38 = .ok (.aload_n 0, 1) := by decide +kernel
theorem dX6_flips_39 : decode cX6_flips 39 = .ok (.invokevirtual 90, 3) := by decide +kernel
theorem dX6_flips_42 : decode cX6_flips 42 = .ok (.aload_n 0, 1) := by decide +kernel
theorem dX6_flips_43 : decode cX6_flips 43 = .ok (.getfield 26, 3) := by decide +kernel
theorem dX6_flips_46 : decode cX6_flips 46 = .ok (.getfield 66, 3) := by decide +kernel
theorem dX6_flips_49 : decode cX6_flips 49 = .ok (.iload_n 1, 1) := by decide +kernel
theorem dX6_flips_50 : decode cX6_flips 50 = .ok (.iload_n 2, 1) := by decide +kernel
theorem dX6_flips_51 : decode cX6_flips 51 = .ok (.idiv, 1) := by decide +kernel
theorem dX6_flips_52 : decode cX6_flips 52 = .ok (.iload_n 2, 1) := by decide +kernel
theorem dX6_flips_53 : decode cX6_flips 53 = .ok (.iconst 1, 1) := by decide +kernel
theorem dX6_flips_54 : decode cX6_flips 54 = .ok (.isub, 1) := by decide +kernel
theorem dX6_flips_55 : decode cX6_flips 55 = .ok (.iload_n 1, 1) := by decide +kernel
theorem dX6_flips_56 : decode cX6_flips 56 = .ok (.iload_n 2, 1) := by decide +kernel
theorem dX6_flips_57 : decode cX6_flips 57 = .ok (.irem, 1) := by decide +kernel
theorem dX6_flips_58 : decode cX6_flips 58 = .ok (.isub, 1) := by decide +kernel
theorem dX6_flips_59 : decode cX6_flips 59 = .ok (.invokevirtual 126, 3) := by decide +kernel
theorem dX6_flips_62 : decode cX6_flips 62 = .ok (.ireturn, 1) := by decide +kernel
theorem dX6_undo_0 : decode cX6_undo 0 = .ok (.aload_n 0, 1) := by decide +kernel
theorem dX6_undo_1 : decode cX6_undo 1 = .ok (.getfield 129, 3) := by decide +kernel
theorem dX6_undo_4 : decode cX6_undo 4 = .ok (.iconst 1, 1) := by decide +kernel
theorem dX6_undo_5 : decode cX6_undo 5 = .ok (.if_icmp .lt 12, 3) := by decide +kernel
theorem dX6_undo_8 : decode cX6_undo 8 = .ok (.aload_n 0, 1) := by decide +kernel
theorem dX6_undo_9 : decode cX6_undo 9 = .ok (.getfield 129, 3) := by decide +kernel
theorem dX6_undo_12 : decode cX6_undo 12 = .ok (.bipush 6, 2) := by decide +kernel
theorem dX6_undo_14 : decode cX6_undo 14 = .ok (.if_icmp .le 6, 3) := by decide +kernel
theorem dX6_undo_17 : decode cX6_undo 17 = .ok (.bipush (-2), 2) := by decide +kernel
theorem dX6_undo_19 : decode cX6_undo 19 = .ok (.ireturn, 1) := by decide +kernel
theorem dX6_undo_20 : decode cX6_undo 20 = .ok (.aload_n 0, 1) := by decide +kernel
theorem dX6_undo_21 : decode cX6_undo 21 = .ok (.dup, 1) := by decide +kernel
theorem dX6_undo_22 : decode cX6_undo 22 = .ok (.getfield 129, 3) := by decide +kernel
theorem dX6_undo_25 : decode cX6_undo 25 = .ok (.iconst 1, 1) := by decide +kernel
theorem dX6_undo_26 : decode cX6_undo 26 = .ok (.isub, 1) := by decide +kernel
theorem dX6_undo_27 : decode cX6_undo 27 = .ok (.putfield 129, 3) := by decide +kernel
theorem dX6_undo_30 : decode cX6_undo 30 = .ok (.aload_n 0, 1) := by decide +kernel
theorem dX6_undo_31 : decode cX6_undo 31 = .ok (.aload_n 0, 1) := by decide +kernel
theorem dX6_undo_32 : decode cX6_undo 32 = .ok (.getfield 44, 3) := by decide +kernel
theorem dX6_undo_35 : decode cX6_undo 35 = .ok (.aload_n 0, 1) := by decide +kernel
theorem dX6_undo_36 : decode cX6_undo 36 = .ok (.getfield 129, 3) := by decide +kernel
theorem dX6_undo_39 : decode cX6_undo 39 = .ok (.aaload, 1) := by decide +kernel
theorem dX6_undo_40 : decode cX6_undo 40 = .ok (.invokevirtual 132, 3) := by decide +kernel
theorem dX6_undo_43 : decode cX6_undo 43 = .ok (.aload_n 0, 1) := by decide +kernel
theorem dX6_undo_44 : decode cX6_undo 44 = .ok (.getfield 129, 3) := by decide +kernel
theorem dX6_undo_47 : decode cX6_undo 47 = .ok (.ireturn, 1) := by decide +kernel
theorem dX6_step_0 : decode cX6_step 0 = .ok (.aload_n 0, 1) := by decide +kernel
theorem dX6_step_1 : decode cX6_step 1 = .ok (.iload_n 1, 1) := by decide +kernel
theorem dX6_step_2 : decode cX6_step 2 = .ok (.invokevirtual 136, 3) := by decide +kernel
theorem dX6_step_5 : decode cX6_step 5 = .ok (.ifCond .ne 12, 3) := by decide +kernel
theorem dX6_step_8 : decode cX6_step 8 = .ok (.iload_n 2, 1) := by decide +kernel
theorem dX6_step_9 : decode cX6_step 9 = .ok (.ifCond .lt 8, 3) := by decide +kernel
theorem dX6_step_12 : decode cX6_step 12 = .ok (.iload_n 2, 1) := by decide +kernel
theorem dX6_step_13 : decode cX6_step 13 = .ok (.iconst 1, 1) := by decide +kernel
theorem dX6_step_14 : decode cX6_step 14 = .ok (.if_icmp .le 5, 3) := by decide +kernel
theorem dX6_step_17 : decode cX6_step 17 = .ok (.iconst (-1), 1) := by decide +kernel
theorem dX6_step_18 : decode cX6_step 18 = .ok (.ireturn, 1) := by decide +kernel
theorem dX6_step_19 : decode cX6_step 19 = .ok (.aload_n 0, 1) := by decide +kernel
theorem dX6_step_20 : decode cX6_step 20 = .ok (.getfield 26, 3) := by decide +kernel
theorem dX6_step_23 : decode cX6_step 23 = .ok (.getfield 59, 3) := by decide +kernel
theorem dX6_step_26 : decode cX6_step 26 = .ok (.iload_n 1, 1) := by decide +kernel
theorem dX6_step_27 : decode cX6_step 27 = .ok (.iload_n 2, 1) := by decide +kernel
theorem dX6_step_28 : decode cX6_step 28 = .ok (.invokevirtual 140, 3) := by decide +kernel
theorem dX6_step_31 : decode cX6_step 31 = .ok (.ireturn, 1) := by decide +kernel
theorem dX6_arc_0 : decode cX6_arc 0 = .ok (.aload_n 0, 1) := by decide +kernel
theorem dX6_arc_1 : decode cX6_arc 1 = .ok (.iload_n 1, 1) := by decide +kernel
theorem dX6_arc_2 : decode cX6_arc 2 = .ok (.invokevirtual 136, 3) := by decide +kernel
theorem dX6_arc_5 : decode cX6_arc 5 = .ok (.ifCond .ne 20, 3) := by decide +kernel
theorem dX6_arc_8 : decode cX6_arc 8 = .ok (.aload_n 0, 1) := by decide +kernel
theorem dX6_arc_9 : decode cX6_arc 9 = .ok (.iload_n 2, 1) := by decide +kernel
theorem dX6_arc_10 : decode cX6_arc 10 = .ok (.invokevirtual 143, 3) := by decide +kernel
theorem dX6_arc_13 : decode cX6_arc 13 = .ok (.ifCond .ne 12, 3) := by decide +kernel
theorem dX6_arc_16 : decode cX6_arc 16 = .ok (.iload_n 3, 1) := by decide +kernel
theorem dX6_arc_17 : decode cX6_arc 17 = .ok (.ifCond .lt 8, 3) := by decide +kernel
theorem dX6_arc_20 : decode cX6_arc 20 = .ok (.iload_n 3, 1) := by decide +kernel
theorem dX6_arc_21 : decode cX6_arc 21 = .ok (.iconst 1, 1) := by decide +kernel
theorem dX6_arc_22 : decode cX6_arc 22 = .ok (.if_icmp .le 5, 3) := by decide +kernel
theorem dX6_arc_25 : decode cX6_arc 25 = .ok (.iconst (-1), 1) := by decide +kernel
theorem dX6_arc_26 : decode cX6_arc 26 = .ok (.ireturn, 1) := by decide +kernel
theorem dX6_arc_27 : decode cX6_arc 27 = .ok (.iload_n 3, 1) := by decide +kernel
theorem dX6_arc_28 : decode cX6_arc 28 = .ok (.ifCond .ne 15, 3) := by decide +kernel
theorem dX6_arc_31 : decode cX6_arc 31 = .ok (.aload_n 0, 1) := by decide +kernel
theorem dX6_arc_32 : decode cX6_arc 32 = .ok (.getfield 33, 3) := by decide +kernel
theorem dX6_arc_35 : decode cX6_arc 35 = .ok (.iload_n 1, 1) := by decide +kernel
theorem dX6_arc_36 : decode cX6_arc 36 = .ok (.iload_n 2, 1) := by decide +kernel
theorem dX6_arc_37 : decode cX6_arc 37 = .ok (.invokevirtual 117, 3) := by decide +kernel
theorem dX6_arc_40 : decode cX6_arc 40 = .ok (.goto 12, 3) := by decide +kernel
theorem dX6_arc_43 : decode cX6_arc 43 = .ok (.aload_n 0, 1) := by decide +kernel
theorem dX6_arc_44 : decode cX6_arc 44 = .ok (.getfield 33, 3) := by decide +kernel
theorem dX6_arc_47 : decode cX6_arc 47 = .ok (.iload_n 1, 1) := by decide +kernel
theorem dX6_arc_48 : decode cX6_arc 48 = .ok (.iload_n 2, 1) := by decide +kernel
theorem dX6_arc_49 : decode cX6_arc 49 = .ok (.invokevirtual 146, 3) := by decide +kernel
theorem dX6_arc_52 : decode cX6_arc 52 = .ok (.ireturn, 1) := by decide +kernel
theorem dX6_state_0 : decode cX6_state 0 = .ok (.aload_n 0, 1) := by decide +kernel
theorem dX6_state_1 : decode cX6_state 1 = .ok (.iload_n 1, 1) := by decide +kernel
theorem dX6_state_2 : decode cX6_state 2 = .ok (.invokevirtual 136, 3) := by decide +kernel
theorem dX6_state_5 : decode cX6_state 5 = .ok (.ifCond .ne 12, 3) := by decide +kernel
theorem dX6_state_8 : decode cX6_state 8 = .ok (.iload_n 2, 1) := by decide +kernel
theorem dX6_state_9 : decode cX6_state 9 = .ok (.ifCond .lt 8, 3) := by decide +kernel
theorem dX6_state_12 : decode cX6_state 12 = .ok (.iload_n 2, 1) := by decide +kernel
theorem dX6_state_13 : decode cX6_state 13 = .ok (.iconst 1, 1) := by decide +kernel
theorem dX6_state_14 : decode cX6_state 14 = .ok (.if_icmp .le 5, 3) := by decide +kernel
theorem dX6_state_17 : decode cX6_state 17 = .ok (.iconst (-1), 1) := by decide +kernel
theorem dX6_state_18 : decode cX6_state 18 = .ok (.ireturn, 1) := by decide +kernel
theorem dX6_state_19 : decode cX6_state 19 = .ok (.iload_n 2, 1) := by decide +kernel
theorem dX6_state_20 : decode cX6_state 20 = .ok (.ifCond .ne 12, 3) := by decide +kernel
theorem dX6_state_23 : decode cX6_state 23 = .ok (.aload_n 0, 1) := by decide +kernel
theorem dX6_state_24 : decode cX6_state 24 = .ok (.getfield 33, 3) := by decide +kernel
theorem dX6_state_27 : decode cX6_state 27 = .ok (.iload_n 1, 1) := by decide +kernel
theorem dX6_state_28 : decode cX6_state 28 = .ok (.invokevirtual 149, 3) := by decide +kernel
theorem dX6_state_31 : decode cX6_state 31 = .ok (.ireturn, 1) := by decide +kernel
theorem dX6_state_32 : decode cX6_state 32 = .ok (.aload_n 0, 1) := by decide +kernel
theorem dX6_state_33 : decode cX6_state 33 = .ok (.getfield 33, 3) := by decide +kernel
theorem dX6_state_36 : decode cX6_state 36 = .ok (.iload_n 1, 1) := by decide +kernel
theorem dX6_state_37 : decode cX6_state 37 = .ok (.invokevirtual 153, 3) := by decide +kernel
theorem dX6_state_40 : decode cX6_state 40 = .ok (.ifCond .eq 7, 3) := by decide +kernel
theorem dX6_state_43 : decode cX6_state 43 = .ok (.iconst 1, 1) := by decide +kernel
theorem dX6_state_44 : decode cX6_state 44 = .ok (.goto 4, 3) := by decide +kernel
theorem dX6_state_47 : decode cX6_state 47 = .ok (.iconst 0, 1) := by decide +kernel
theorem dX6_state_48 : decode cX6_state 48 = .ok (.ireturn, 1) := by decide +kernel
theorem dX6_weight_0 : decode cX6_weight 0 = .ok (.aload_n 0, 1) := by decide +kernel
theorem dX6_weight_1 : decode cX6_weight 1 = .ok (.iload_n 1, 1) := by decide +kernel
theorem dX6_weight_2 : decode cX6_weight 2 = .ok (.invokevirtual 136, 3) := by decide +kernel
theorem dX6_weight_5 : decode cX6_weight 5 = .ok (.ifCond .ne 23, 3) := by decide +kernel
theorem dX6_weight_8 : decode cX6_weight 8 = .ok (.iload_n 2, 1) := by decide +kernel
theorem dX6_weight_9 : decode cX6_weight 9 = .ok (.iconst 1, 1) := by decide +kernel
theorem dX6_weight_10 : decode cX6_weight 10 = .ok (.if_icmp .lt 18, 3) := by decide +kernel
theorem dX6_weight_13 : decode cX6_weight 13 = .ok (.iload_n 2, 1) := by decide +kernel
theorem dX6_weight_14 : decode cX6_weight 14 = .ok (.bipush 9, 2) := by decide +kernel
theorem dX6_weight_16 : decode cX6_weight 16 = .ok (.if_icmp .gt 12, 3) := by decide +kernel
theorem dX6_weight_19 : decode cX6_weight 19 = .ok (.iload_n 3, 1) := by decide +kernel
theorem dX6_weight_20 : decode cX6_weight 20 = .ok (.ifCond .lt 8, 3) := by decide +kernel
theorem dX6_weight_23 : decode cX6_weight 23 = .ok (.iload_n 3, 1) := by decide +kernel
theorem dX6_weight_24 : decode cX6_weight 24 = .ok (.iconst 1, 1) := by decide +kernel
theorem dX6_weight_25 : decode cX6_weight 25 = .ok (.if_icmp .le 5, 3) := by decide +kernel
theorem dX6_weight_28 : decode cX6_weight 28 = .ok (.iconst (-1), 1) := by decide +kernel
theorem dX6_weight_29 : decode cX6_weight 29 = .ok (.ireturn, 1) := by decide +kernel
theorem dX6_weight_30 : decode cX6_weight 30 = .ok (.aload_n 0, 1) := by decide +kernel
theorem dX6_weight_31 : decode cX6_weight 31 = .ok (.getfield 40, 3) := by decide +kernel
theorem dX6_weight_34 : decode cX6_weight 34 = .ok (.aload_n 0, 1) := by decide +kernel
theorem dX6_weight_35 : decode cX6_weight 35 = .ok (.getfield 33, 3) := by decide +kernel
theorem dX6_weight_38 : decode cX6_weight 38 = .ok (.aload_n 0, 1) := by decide +kernel
theorem dX6_weight_39 : decode cX6_weight 39 = .ok (.getfield 26, 3) := by decide +kernel
theorem dX6_weight_42 : decode cX6_weight 42 = .ok (.getfield 59, 3) := by decide +kernel
theorem dX6_weight_45 : decode cX6_weight 45 = .ok (.getfield 156, 3) := by decide +kernel
theorem dX6_weight_48 : decode cX6_weight 48 = .ok (.iload_n 2, 1) := by decide +kernel
theorem dX6_weight_49 : decode cX6_weight 49 = .ok (.invokevirtual 159, 3) := by decide +kernel
theorem dX6_weight_52 : decode cX6_weight 52 = .ok (.iload_n 3, 1) := by decide +kernel
theorem dX6_weight_53 : decode cX6_weight 53 = .ok (.ifCond .ne 14, 3) := by decide +kernel
theorem dX6_weight_56 : decode cX6_weight 56 = .ok (.aload_n 0, 1) := by decide +kernel
theorem dX6_weight_57 : decode cX6_weight 57 = .ok (.getfield 40, 3) := by decide +kernel
theorem dX6_weight_60 : decode cX6_weight 60 = .ok (.iload_n 1, 1) := by decide +kernel
theorem dX6_weight_61 : decode cX6_weight 61 = .ok (.invokevirtual 163, 3) := by decide +kernel
theorem dX6_weight_64 : decode cX6_weight 64 = .ok (.goto 11, 3) := by decide +kernel
theorem dX6_weight_67 : decode cX6_weight 67 = .ok (.aload_n 0, 1) := by decide +kernel
theorem dX6_weight_68 : decode cX6_weight 68 = .ok (.getfield 40, 3) := by decide +kernel
theorem dX6_weight_71 : decode cX6_weight 71 = .ok (.iload_n 1, 1) := by decide +kernel
theorem dX6_weight_72 : decode cX6_weight 72 = .ok (.invokevirtual 166, 3) := by decide +kernel
theorem dX6_weight_75 : decode cX6_weight 75 = .ok (.ireturn, 1) := by decide +kernel
theorem dX6_rows_0 : decode cX6_rows 0 = .ok (.iload_n 1, 1) := by decide +kernel
theorem dX6_rows_1 : decode cX6_rows 1 = .ok (.ifCond .lt 9, 3) := by decide +kernel
theorem dX6_rows_4 : decode cX6_rows 4 = .ok (.iload_n 1, 1) := by decide +kernel
theorem dX6_rows_5 : decode cX6_rows 5 = .ok (.bipush 20, 2) := by decide +kernel
theorem dX6_rows_7 : decode cX6_rows 7 = .ok (.if_icmp .le 5, 3) := by decide +kernel
theorem dX6_rows_10 : decode cX6_rows 10 = .ok (.iconst (-1), 1) := by decide +kernel
theorem dX6_rows_11 : decode cX6_rows 11 = .ok (.ireturn, 1) := by decide +kernel
theorem dX6_rows_12 : decode cX6_rows 12 = .ok (.aload_n 0, 1) := by decide +kernel
theorem dX6_rows_13 : decode cX6_rows 13 = .ok (.getfield 40, 3) := by decide +kernel
theorem dX6_rows_16 : decode cX6_rows 16 = .ok (.aload_n 0, 1) := by decide +kernel
theorem dX6_rows_17 : decode cX6_rows 17 = .ok (.getfield 26, 3) := by decide +kernel
theorem dX6_rows_20 : decode cX6_rows 20 = .ok (.getfield 59, 3) := by decide +kernel
theorem dX6_rows_23 : decode cX6_rows 23 = .ok (.iload_n 1, 1) := by decide +kernel
theorem dX6_rows_24 : decode cX6_rows 24 = .ok (.invokevirtual 169, 3) := by decide +kernel
theorem dX6_rows_27 : decode cX6_rows 27 = .ok (.ireturn, 1) := by decide +kernel
theorem dX6_word_0 : decode cX6_word 0 = .ok (.iload_n 1, 1) := by decide +kernel
theorem dX6_word_1 : decode cX6_word 1 = .ok (.ifCond .lt 26, 3) := by decide +kernel
theorem dX6_word_4 : decode cX6_word 4 = .ok (.iload_n 1, 1) := by decide +kernel
theorem dX6_word_5 : decode cX6_word 5 = .ok (.aload_n 0, 1) := by decide +kernel
theorem dX6_word_6 : decode cX6_word 6 = .ok (.getfield 26, 3) := by decide +kernel
theorem dX6_word_9 : decode cX6_word 9 = .ok (.getfield 66, 3) := by decide +kernel
theorem dX6_word_12 : decode cX6_word 12 = .ok (.getfield 109, 3) := by decide +kernel
theorem dX6_word_15 : decode cX6_word 15 = .ok (.if_icmp .ge 12, 3) := by decide +kernel
theorem dX6_word_18 : decode cX6_word 18 = .ok (.iload_n 2, 1) := by decide +kernel
theorem dX6_word_19 : decode cX6_word 19 = .ok (.ifCond .lt 8, 3) := by decide +kernel
theorem dX6_word_22 : decode cX6_word 22 = .ok (.iload_n 2, 1) := by decide +kernel
theorem dX6_word_23 : decode cX6_word 23 = .ok (.iconst 3, 1) := by decide +kernel
theorem dX6_word_24 : decode cX6_word 24 = .ok (.if_icmp .le 5, 3) := by decide +kernel
theorem dX6_word_27 : decode cX6_word 27 = .ok (.iconst (-1), 1) := by decide +kernel
theorem dX6_word_28 : decode cX6_word 28 = .ok (.ireturn, 1) := by decide +kernel
theorem dX6_word_29 : decode cX6_word 29 = .ok (.iload_n 2, 1) := by decide +kernel
theorem dX6_word_30 : decode cX6_word 30 = .ok (.tableswitch 56 0 2 #[26, 38, 50], 26) := by decide +kernel
theorem dX6_word_56 : decode cX6_word 56 = .ok (.aload_n 0, 1) := by decide +kernel
theorem dX6_word_57 : decode cX6_word 57 = .ok (.getfield 26, 3) := by decide +kernel
theorem dX6_word_60 : decode cX6_word 60 = .ok (.getfield 66, 3) := by decide +kernel
theorem dX6_word_63 : decode cX6_word 63 = .ok (.iload_n 1, 1) := by decide +kernel
theorem dX6_word_64 : decode cX6_word 64 = .ok (.invokevirtual 173, 3) := by decide +kernel
theorem dX6_word_67 : decode cX6_word 67 = .ok (.ireturn, 1) := by decide +kernel
theorem dX6_word_68 : decode cX6_word 68 = .ok (.aload_n 0, 1) := by decide +kernel
theorem dX6_word_69 : decode cX6_word 69 = .ok (.getfield 26, 3) := by decide +kernel
theorem dX6_word_72 : decode cX6_word 72 = .ok (.getfield 66, 3) := by decide +kernel
theorem dX6_word_75 : decode cX6_word 75 = .ok (.iload_n 1, 1) := by decide +kernel
theorem dX6_word_76 : decode cX6_word 76 = .ok (.invokevirtual 176, 3) := by decide +kernel
theorem dX6_word_79 : decode cX6_word 79 = .ok (.ireturn, 1) := by decide +kernel
theorem dX6_word_80 : decode cX6_word 80 = .ok (.aload_n 0, 1) := by decide +kernel
theorem dX6_word_81 : decode cX6_word 81 = .ok (.iload_n 1, 1) := by decide +kernel
theorem dX6_word_82 : decode cX6_word 82 = .ok (.invokevirtual 179, 3) := by decide +kernel
theorem dX6_word_85 : decode cX6_word 85 = .ok (.ireturn, 1) := by decide +kernel
theorem dX6_word_86 : decode cX6_word 86 = .ok (.aload_n 0, 1) := by decide +kernel
theorem dX6_word_87 : decode cX6_word 87 = .ok (.iload_n 1, 1) := by decide +kernel
theorem dX6_word_88 : decode cX6_word 88 = .ok (.invokevirtual 182, 3) := by decide +kernel
theorem dX6_word_91 : decode cX6_word 91 = .ok (.ireturn, 1) := by decide +kernel
theorem dX6_wrong_0 : decode cX6_wrong 0 = .ok (.iload_n 1, 1) := by decide +kernel
theorem dX6_wrong_1 : decode cX6_wrong 1 = .ok (.ifCond .lt 8, 3) := by decide +kernel
theorem dX6_wrong_4 : decode cX6_wrong 4 = .ok (.iload_n 1, 1) := by decide +kernel
theorem dX6_wrong_5 : decode cX6_wrong 5 = .ok (.iconst 1, 1) := by decide +kernel
theorem dX6_wrong_6 : decode cX6_wrong 6 = .ok (.if_icmp .le 5, 3) := by decide +kernel
theorem dX6_wrong_9 : decode cX6_wrong 9 = .ok (.iconst (-1), 1) := by decide +kernel
theorem dX6_wrong_10 : decode cX6_wrong 10 = .ok (.ireturn, 1) := by decide +kernel
theorem dX6_wrong_11 : decode cX6_wrong 11 = .ok (.iconst 0, 1) := by decide +kernel
theorem dX6_wrong_12 : decode cX6_wrong 12 = .ok (.istore_n 2, 1) := by decide +kernel
theorem dX6_wrong_13 : decode cX6_wrong 13 = .ok (.iconst 0, 1) := by decide +kernel
theorem dX6_wrong_14 : decode cX6_wrong 14 = .ok (.istore_n 3, 1) := by decide +kernel
theorem dX6_wrong_15 : decode cX6_wrong 15 = .ok (.iload_n 3, 1) := by decide +kernel
theorem dX6_wrong_16 : decode cX6_wrong 16 = .ok (.aload_n 0, 1) := by decide +kernel
theorem dX6_wrong_17 : decode cX6_wrong 17 = .ok (.getfield 26, 3) := by decide +kernel
theorem dX6_wrong_20 : decode cX6_wrong 20 = .ok (.getfield 66, 3) := by decide +kernel
theorem dX6_wrong_23 : decode cX6_wrong 23 = .ok (.getfield 109, 3) := by decide +kernel
theorem dX6_wrong_26 : decode cX6_wrong 26 = .ok (.if_icmp .ge 47, 3) := by decide +kernel
theorem dX6_wrong_29 : decode cX6_wrong 29 = .ok (.iload_n 1, 1) := by decide +kernel
theorem dX6_wrong_30 : decode cX6_wrong 30 = .ok (.ifCond .ne 11, 3) := by decide +kernel
theorem dX6_wrong_33 : decode cX6_wrong 33 = .ok (.aload_n 0, 1) := by decide +kernel
theorem dX6_wrong_34 : decode cX6_wrong 34 = .ok (.iload_n 3, 1) := by decide +kernel
theorem dX6_wrong_35 : decode cX6_wrong 35 = .ok (.invokevirtual 179, 3) := by decide +kernel
theorem dX6_wrong_38 : decode cX6_wrong 38 = .ok (.goto 8, 3) := by decide +kernel
theorem dX6_wrong_41 : decode cX6_wrong 41 = .ok (.aload_n 0, 1) := by decide +kernel
theorem dX6_wrong_42 : decode cX6_wrong 42 = .ok (.iload_n 3, 1) := by decide +kernel
theorem dX6_wrong_43 : decode cX6_wrong 43 = .ok (.invokevirtual 182, 3) := by decide +kernel
theorem dX6_wrong_46 : decode cX6_wrong 46 = .ok (.istore 4, 2) := by decide +kernel
theorem dX6_wrong_48 : decode cX6_wrong 48 = .ok (.iload 4, 2) := by decide +kernel
theorem dX6_wrong_50 : decode cX6_wrong 50 = .ok (.aload_n 0, 1) := by decide +kernel
theorem dX6_wrong_51 : decode cX6_wrong 51 = .ok (.getfield 26, 3) := by decide +kernel
theorem dX6_wrong_54 : decode cX6_wrong 54 = .ok (.getfield 66, 3) := by decide +kernel
theorem dX6_wrong_57 : decode cX6_wrong 57 = .ok (.iload_n 3, 1) := by decide +kernel
theorem dX6_wrong_58 : decode cX6_wrong 58 = .ok (.invokevirtual 176, 3) := by decide +kernel
theorem dX6_wrong_61 : decode cX6_wrong 61 = .ok (.if_icmp .eq 6, 3) := by decide +kernel
theorem dX6_wrong_64 : decode cX6_wrong 64 = .ok (.iinc 2 1, 3) := by decide +kernel
theorem dX6_wrong_67 : decode cX6_wrong 67 = .ok (.iinc 3 1, 3) := by decide +kernel
theorem dX6_wrong_70 : decode cX6_wrong 70 = .ok (.goto (-55), 3) := by decide +kernel
theorem dX6_wrong_73 : decode cX6_wrong 73 = .ok (.iload_n 2, 1) := by decide +kernel
theorem dX6_wrong_74 : decode cX6_wrong 74 = .ok (.ireturn, 1) := by decide +kernel
theorem dX6_sees_0 : decode cX6_sees 0 = .ok (.aload_n 0, 1) := by decide +kernel
theorem dX6_sees_1 : decode cX6_sees 1 = .ok (.iload_n 1, 1) := by decide +kernel
theorem dX6_sees_2 : decode cX6_sees 2 = .ok (.invokevirtual 143, 3) := by decide +kernel
theorem dX6_sees_5 : decode cX6_sees 5 = .ok (.ifCond .eq 5, 3) := by decide +kernel
theorem dX6_sees_8 : decode cX6_sees 8 = .ok (.iconst (-1), 1) := by decide +kernel
theorem dX6_sees_9 : decode cX6_sees 9 = .ok (.ireturn, 1) := by decide +kernel
theorem dX6_sees_10 : decode cX6_sees 10 = .ok (.aload_n 0, 1) := by decide +kernel
theorem dX6_sees_11 : decode cX6_sees 11 = .ok (.getfield 96, 3) := by decide +kernel
theorem dX6_sees_14 : decode cX6_sees 14 = .ok (.ifCond .lt 12, 3) := by decide +kernel
theorem dX6_sees_17 : decode cX6_sees 17 = .ok (.aload_n 0, 1) := by decide +kernel
theorem dX6_sees_18 : decode cX6_sees 18 = .ok (.getfield 96, 3) := by decide +kernel
theorem dX6_sees_21 : decode cX6_sees 21 = .ok (.bipush 6, 2) := by decide +kernel
theorem dX6_sees_23 : decode cX6_sees 23 = .ok (.if_icmp .lt 6, 3) := by decide +kernel
theorem dX6_sees_26 : decode cX6_sees 26 = .ok (.bipush (-3), 2) := by decide +kernel
theorem dX6_sees_28 : decode cX6_sees 28 = .ok (.ireturn, 1) := by decide +kernel
theorem dX6_sees_29 : decode cX6_sees 29 = .ok (.aload_n 0, 1) := by decide +kernel
theorem dX6_sees_30 : decode cX6_sees 30 = .ok (.getfield 55, 3) := by decide +kernel
theorem dX6_sees_33 : decode cX6_sees 33 = .ok (.aload_n 0, 1) := by decide +kernel
theorem dX6_sees_34 : decode cX6_sees 34 = .ok (.getfield 96, 3) := by decide +kernel
theorem dX6_sees_37 : decode cX6_sees 37 = .ok (.iload_n 1, 1) := by decide +kernel
theorem dX6_sees_38 : decode cX6_sees 38 = .ok (.iastore, 1) := by decide +kernel
theorem dX6_sees_39 : decode cX6_sees 39 = .ok (.aload_n 0, 1) := by decide +kernel
theorem dX6_sees_40 : decode cX6_sees 40 = .ok (.dup, 1) := by decide +kernel
theorem dX6_sees_41 : decode cX6_sees 41 = .ok (.getfield 96, 3) := by decide +kernel
theorem dX6_sees_44 : decode cX6_sees 44 = .ok (.iconst 1, 1) := by decide +kernel
theorem dX6_sees_45 : decode cX6_sees 45 = .ok (.iadd, 1) := by decide +kernel
theorem dX6_sees_46 : decode cX6_sees 46 = .ok (.putfield 96, 3) := by decide +kernel
theorem dX6_sees_49 : decode cX6_sees 49 = .ok (.aload_n 0, 1) := by decide +kernel
theorem dX6_sees_50 : decode cX6_sees 50 = .ok (.getfield 96, 3) := by decide +kernel
theorem dX6_sees_53 : decode cX6_sees 53 = .ok (.ireturn, 1) := by decide +kernel
theorem dX6_forget_0 : decode cX6_forget 0 = .ok (.aload_n 0, 1) := by decide +kernel
theorem dX6_forget_1 : decode cX6_forget 1 = .ok (.getfield 96, 3) := by decide +kernel
theorem dX6_forget_4 : decode cX6_forget 4 = .ok (.istore_n 1, 1) := by decide +kernel
theorem dX6_forget_5 : decode cX6_forget 5 = .ok (.aload_n 0, 1) := by decide +kernel
theorem dX6_forget_6 : decode cX6_forget 6 = .ok (.iconst 0, 1) := by decide +kernel
theorem dX6_forget_7 : decode cX6_forget 7 = .ok (.putfield 96, 3) := by decide +kernel
theorem dX6_forget_10 : decode cX6_forget 10 = .ok (.iload_n 1, 1) := by decide +kernel
theorem dX6_forget_11 : decode cX6_forget 11 = .ok (.ireturn, 1) := by decide +kernel
theorem dX6_which_0 : decode cX6_which 0 = .ok (.iload_n 1, 1) := by decide +kernel
theorem dX6_which_1 : decode cX6_which 1 = .ok (.ifCond .lt 8, 3) := by decide +kernel
theorem dX6_which_4 : decode cX6_which 4 = .ok (.iload_n 1, 1) := by decide +kernel
theorem dX6_which_5 : decode cX6_which 5 = .ok (.iconst 1, 1) := by decide +kernel
theorem dX6_which_6 : decode cX6_which 6 = .ok (.if_icmp .le 5, 3) := by decide +kernel
theorem dX6_which_9 : decode cX6_which 9 = .ok (.iconst (-1), 1) := by decide +kernel
theorem dX6_which_10 : decode cX6_which 10 = .ok (.ireturn, 1) := by decide +kernel
theorem dX6_which_11 : decode cX6_which 11 = .ok (.iload_n 1, 1) := by decide +kernel
theorem dX6_which_12 : decode cX6_which 12 = .ok (.ifCond .ne 10, 3) := by decide +kernel
theorem dX6_which_15 : decode cX6_which 15 = .ok (.aload_n 0, 1) := by decide +kernel
theorem dX6_which_16 : decode cX6_which 16 = .ok (.invokevirtual 185, 3) := by decide +kernel
theorem dX6_which_19 : decode cX6_which 19 = .ok (.goto 7, 3) := by decide +kernel
theorem dX6_which_22 : decode cX6_which 22 = .ok (.aload_n 0, 1) := by decide +kernel
theorem dX6_which_23 : decode cX6_which 23 = .ok (.invokevirtual 188, 3) := by decide +kernel
theorem dX6_which_26 : decode cX6_which 26 = .ok (.ireturn, 1) := by decide +kernel
theorem dX6_ask_0 : decode cX6_ask 0 = .ok (.aload_n 0, 1) := by decide +kernel
theorem dX6_ask_1 : decode cX6_ask 1 = .ok (.invokevirtual 188, 3) := by decide +kernel
theorem dX6_ask_4 : decode cX6_ask 4 = .ok (.istore_n 1, 1) := by decide +kernel
theorem dX6_ask_5 : decode cX6_ask 5 = .ok (.iload_n 1, 1) := by decide +kernel
theorem dX6_ask_6 : decode cX6_ask 6 = .ok (.invokestatic 191, 3) := by decide +kernel
theorem dX6_ask_9 : decode cX6_ask 9 = .ok (.iconst 2, 1) := by decide +kernel
theorem dX6_ask_10 : decode cX6_ask 10 = .ok (.if_icmp .ge 6, 3) := by decide +kernel
theorem dX6_ask_13 : decode cX6_ask 13 = .ok (.bipush (-9), 2) := by decide +kernel
theorem dX6_ask_15 : decode cX6_ask 15 = .ok (.ireturn, 1) := by decide +kernel
theorem dX6_ask_16 : decode cX6_ask 16 = .ok (.bipush (-9), 2) := by decide +kernel
theorem dX6_ask_18 : decode cX6_ask 18 = .ok (.istore_n 2, 1) := by decide +kernel
theorem dX6_ask_19 : decode cX6_ask 19 = .ok (.bipush 8, 2) := by decide +kernel
theorem dX6_ask_21 : decode cX6_ask 21 = .ok (.istore_n 3, 1) := by decide +kernel
theorem dX6_ask_22 : decode cX6_ask 22 = .ok (.iconst 0, 1) := by decide +kernel
theorem dX6_ask_23 : decode cX6_ask 23 = .ok (.istore 4, 2) := by decide +kernel
theorem dX6_ask_25 : decode cX6_ask 25 = .ok (.iload 4, 2) := by decide +kernel
theorem dX6_ask_27 : decode cX6_ask 27 = .ok (.aload_n 0, 1) := by decide +kernel
theorem dX6_ask_28 : decode cX6_ask 28 = .ok (.getfield 26, 3) := by decide +kernel
theorem dX6_ask_31 : decode cX6_ask 31 = .ok (.getfield 59, 3) := by decide +kernel
theorem dX6_ask_34 : decode cX6_ask 34 = .ok (.invokevirtual 102, 3) := by decide +kernel
theorem dX6_ask_37 : decode cX6_ask 37 = .ok (.if_icmp .ge 33, 3) := by decide +kernel
theorem dX6_ask_40 : decode cX6_ask 40 = .ok (.aload_n 0, 1) := by decide +kernel
theorem dX6_ask_41 : decode cX6_ask 41 = .ok (.getfield 33, 3) := by decide +kernel
theorem dX6_ask_44 : decode cX6_ask 44 = .ok (.iload_n 1, 1) := by decide +kernel
theorem dX6_ask_45 : decode cX6_ask 45 = .ok (.iload 4, 2) := by decide +kernel
theorem dX6_ask_47 : decode cX6_ask 47 = .ok (.invokevirtual 196, 3) := by decide +kernel
theorem dX6_ask_50 : decode cX6_ask 50 = .ok (.istore 5, 2) := by decide +kernel
theorem dX6_ask_52 : decode cX6_ask 52 = .ok (.iload 5, 2) := by decide +kernel
theorem dX6_ask_54 : decode cX6_ask 54 = .ok (.iload_n 3, 1) := by decide +kernel
theorem dX6_ask_55 : decode cX6_ask 55 = .ok (.if_icmp .ge 9, 3) := by decide +kernel
theorem dX6_ask_58 : decode cX6_ask 58 = .ok (.iload 5, 2) := by decide +kernel
theorem dX6_ask_60 : decode cX6_ask 60 = .ok (.istore_n 3, 1) := by decide +kernel
theorem dX6_ask_61 : decode cX6_ask 61 = .ok (.iload 4, 2) := by decide +kernel
theorem dX6_ask_63 : decode cX6_ask 63 = .ok (.istore_n 2, 1) := by decide +kernel
theorem dX6_ask_64 : decode cX6_ask 64 = .ok (.iinc 4 1, 3) := by decide +kernel
theorem dX6_ask_67 : decode cX6_ask 67 = .ok (.goto (-42), 3) := by decide +kernel
theorem dX6_ask_70 : decode cX6_ask 70 = .ok (.iload_n 2, 1) := by decide +kernel
theorem dX6_ask_71 : decode cX6_ask 71 = .ok (.ireturn, 1) := by decide +kernel
theorem dX6_keep_0 : decode cX6_keep 0 = .ok (.iload_n 1, 1) := by decide +kernel
theorem dX6_keep_1 : decode cX6_keep 1 = .ok (.invokestatic 199, 3) := by decide +kernel
theorem dX6_keep_4 : decode cX6_keep 4 = .ok (.ifCond .eq 5, 3) := by decide +kernel
theorem dX6_keep_7 : decode cX6_keep 7 = .ok (.iconst (-1), 1) := by decide +kernel
theorem dX6_keep_8 : decode cX6_keep 8 = .ok (.ireturn, 1) := by decide +kernel
theorem dX6_keep_9 : decode cX6_keep 9 = .ok (.aload_n 0, 1) := by decide +kernel
theorem dX6_keep_10 : decode cX6_keep 10 = .ok (.getfield 48, 3) := by decide +kernel
theorem dX6_keep_13 : decode cX6_keep 13 = .ok (.iload_n 1, 1) := by decide +kernel
theorem dX6_keep_14 : decode cX6_keep 14 = .ok (.aaload, 1) := by decide +kernel
theorem dX6_keep_15 : decode cX6_keep 15 = .ok (.astore_n 2, 1) := by decide +kernel
theorem dX6_keep_16 : decode cX6_keep 16 = .ok (.aload_n 2, 1) := by decide +kernel
theorem dX6_keep_17 : decode cX6_keep 17 = .ok (.ifnonnull 5, 3) := by decide +kernel
theorem dX6_keep_20 : decode cX6_keep 20 = .ok (.iconst (-1), 1) := by decide +kernel
theorem dX6_keep_21 : decode cX6_keep 21 = .ok (.ireturn, 1) := by decide +kernel
theorem dX6_keep_22 : decode cX6_keep 22 = .ok (.aload_n 2, 1) := by decide +kernel
theorem dX6_keep_23 : decode cX6_keep 23 = .ok (.aload_n 0, 1) := by decide +kernel
theorem dX6_keep_24 : decode cX6_keep 24 = .ok (.getfield 26, 3) := by decide +kernel
theorem dX6_keep_27 : decode cX6_keep 27 = .ok (.invokevirtual 202, 3) := by decide +kernel
theorem dX6_keep_30 : decode cX6_keep 30 = .ok (.aload_n 0, 1) := by decide +kernel
theorem dX6_keep_31 : decode cX6_keep 31 = .ok (.getfield 51, 3) := by decide +kernel
theorem dX6_keep_34 : decode cX6_keep 34 = .ok (.iload_n 1, 1) := by decide +kernel
theorem dX6_keep_35 : decode cX6_keep 35 = .ok (.iconst 1, 1) := by decide +kernel
theorem dX6_keep_36 : decode cX6_keep 36 = .ok (.bastore, 1) := by decide +kernel
theorem dX6_keep_37 : decode cX6_keep 37 = .ok (.aload_n 0, 1) := by decide +kernel
theorem dX6_keep_38 : decode cX6_keep 38 = .ok (.getfield 26, 3) := by decide +kernel
theorem dX6_keep_41 : decode cX6_keep 41 = .ok (.getfield 66, 3) := by decide +kernel
theorem dX6_keep_44 : decode cX6_keep 44 = .ok (.getfield 109, 3) := by decide +kernel
theorem dX6_keep_47 : decode cX6_keep 47 = .ok (.ireturn, 1) := by decide +kernel
theorem dX6_back_0 : decode cX6_back 0 = .ok (.iload_n 1, 1) := by decide +kernel
theorem dX6_back_1 : decode cX6_back 1 = .ok (.invokestatic 199, 3) := by decide +kernel
theorem dX6_back_4 : decode cX6_back 4 = .ok (.ifCond .eq 5, 3) := by decide +kernel
theorem dX6_back_7 : decode cX6_back 7 = .ok (.iconst (-1), 1) := by decide +kernel
theorem dX6_back_8 : decode cX6_back 8 = .ok (.ireturn, 1) := by decide +kernel
theorem dX6_back_9 : decode cX6_back 9 = .ok (.aload_n 0, 1) := by decide +kernel
theorem dX6_back_10 : decode cX6_back 10 = .ok (.getfield 51, 3) := by decide +kernel
theorem dX6_back_13 : decode cX6_back 13 = .ok (.iload_n 1, 1) := by decide +kernel
theorem dX6_back_14 : decode cX6_back 14 = .ok (.baload, 1) := by decide +kernel
theorem dX6_back_15 : decode cX6_back 15 = .ok (.ifCond .ne 6, 3) := by decide +kernel
theorem dX6_back_18 : decode cX6_back 18 = .ok (.bipush (-2), 2) := by decide +kernel
theorem dX6_back_20 : decode cX6_back 20 = .ok (.ireturn, 1) := by decide +kernel
theorem dX6_back_21 : decode cX6_back 21 = .ok (.aload_n 0, 1) := by decide +kernel
theorem dX6_back_22 : decode cX6_back 22 = .ok (.aload_n 0, 1) := by decide +kernel
theorem dX6_back_23 : decode cX6_back 23 = .ok (.getfield 48, 3) := by decide +kernel
theorem dX6_back_26 : decode cX6_back 26 = .ok (.iload_n 1, 1) := by decide +kernel
theorem dX6_back_27 : decode cX6_back 27 = .ok (.aaload, 1) := by decide +kernel
theorem dX6_back_28 : decode cX6_back 28 = .ok (.invokevirtual 132, 3) := by decide +kernel
theorem dX6_back_31 : decode cX6_back 31 = .ok (.aload_n 0, 1) := by decide +kernel
theorem dX6_back_32 : decode cX6_back 32 = .ok (.iconst 0, 1) := by decide +kernel
theorem dX6_back_33 : decode cX6_back 33 = .ok (.putfield 129, 3) := by decide +kernel
theorem dX6_back_36 : decode cX6_back 36 = .ok (.aload_n 0, 1) := by decide +kernel
theorem dX6_back_37 : decode cX6_back 37 = .ok (.getfield 26, 3) := by decide +kernel
theorem dX6_back_40 : decode cX6_back 40 = .ok (.getfield 66, 3) := by decide +kernel
theorem dX6_back_43 : decode cX6_back 43 = .ok (.getfield 109, 3) := by decide +kernel
theorem dX6_back_46 : decode cX6_back 46 = .ok (.ireturn, 1) := by decide +kernel
theorem dX6_count_0 : decode cX6_count 0 = .ok (.iload_n 1, 1) := by decide +kernel
theorem dX6_count_1 : decode cX6_count 1 = .ok (.tableswitch 183 0 12 #[67, 75, 86, 97, 108, 116, 124, 135, 143, 154, 165, 170, 178], 67) := by decide +kernel
theorem dX6_count_68 : decode cX6_count 68 = .ok (.aload_n 0, 1) := by decide +kernel
theorem dX6_count_69 : decode cX6_count 69 = .ok (.getfield 33, 3) := by decide +kernel
theorem dX6_count_72 : decode cX6_count 72 = .ok (.getfield 99, 3) := by decide +kernel
theorem dX6_count_75 : decode cX6_count 75 = .ok (.ireturn, 1) := by decide +kernel
theorem dX6_count_76 : decode cX6_count 76 = .ok (.aload_n 0, 1) := by decide +kernel
theorem dX6_count_77 : decode cX6_count 77 = .ok (.getfield 26, 3) := by decide +kernel
theorem dX6_count_80 : decode cX6_count 80 = .ok (.getfield 59, 3) := by decide +kernel
theorem dX6_count_83 : decode cX6_count 83 = .ok (.invokevirtual 204, 3) := by decide +kernel
theorem dX6_count_86 : decode cX6_count 86 = .ok (.ireturn, 1) := by decide +kernel
theorem dX6_count_87 : decode cX6_count 87 = .ok (.aload_n 0, 1) := by decide +kernel
theorem dX6_count_88 : decode cX6_count 88 = .ok (.getfield 26, 3) := by decide +kernel
theorem dX6_count_91 : decode cX6_count 91 = .ok (.getfield 59, 3) := by decide +kernel
theorem dX6_count_94 : decode cX6_count 94 = .ok (.getfield 156, 3) := by decide +kernel
theorem dX6_count_97 : decode cX6_count 97 = .ok (.ireturn, 1) := by decide +kernel
theorem dX6_count_98 : decode cX6_count 98 = .ok (.aload_n 0, 1) := by decide +kernel
theorem dX6_count_99 : decode cX6_count 99 = .ok (.getfield 26, 3) := by decide +kernel
theorem dX6_count_102 : decode cX6_count 102 = .ok (.getfield 59, 3) := by decide +kernel
theorem dX6_count_105 : decode cX6_count 105 = .ok (.getfield 123, 3) := by decide +kernel
theorem dX6_count_108 : decode cX6_count 108 = .ok (.ireturn, 1) := by decide +kernel
theorem dX6_count_109 : decode cX6_count 109 = .ok (.aload_n 0, 1) := by decide +kernel
theorem dX6_count_110 : decode cX6_count 110 = .ok (.getfield 33, 3) := by decide +kernel
theorem dX6_count_113 : decode cX6_count 113 = .ok (.getfield 106, 3) := by decide +kernel
theorem dX6_count_116 : decode cX6_count 116 = .ok (.ireturn, 1) := by decide +kernel
theorem dX6_count_117 : decode cX6_count 117 = .ok (.aload_n 0, 1) := by decide +kernel
theorem dX6_count_118 : decode cX6_count 118 = .ok (.getfield 33, 3) := by decide +kernel
theorem dX6_count_121 : decode cX6_count 121 = .ok (.getfield 70, 3) := by decide +kernel
theorem dX6_count_124 : decode cX6_count 124 = .ok (.ireturn, 1) := by decide +kernel
theorem dX6_count_125 : decode cX6_count 125 = .ok (.aload_n 0, 1) := by decide +kernel
theorem dX6_count_126 : decode cX6_count 126 = .ok (.getfield 26, 3) := by decide +kernel
theorem dX6_count_129 : decode cX6_count 129 = .ok (.getfield 66, 3) := by decide +kernel
theorem dX6_count_132 : decode cX6_count 132 = .ok (.getfield 110, 3) := by decide +kernel
theorem dX6_count_135 : decode cX6_count 135 = .ok (.ireturn, 1) := by decide +kernel
theorem dX6_count_136 : decode cX6_count 136 = .ok (.aload_n 0, 1) := by decide +kernel
theorem dX6_count_137 : decode cX6_count 137 = .ok (.getfield 33, 3) := by decide +kernel
theorem dX6_count_140 : decode cX6_count 140 = .ok (.getfield 207, 3) := by decide +kernel
theorem dX6_count_143 : decode cX6_count 143 = .ok (.ireturn, 1) := by decide +kernel
theorem dX6_count_144 : decode cX6_count 144 = .ok (.aload_n 0, 1) := by decide +kernel
theorem dX6_count_145 : decode cX6_count 145 = .ok (.getfield 26, 3) := by decide +kernel
theorem dX6_count_148 : decode cX6_count 148 = .ok (.getfield 66, 3) := by decide +kernel
theorem dX6_count_151 : decode cX6_count 151 = .ok (.getfield 109, 3) := by decide +kernel
theorem dX6_count_154 : decode cX6_count 154 = .ok (.ireturn, 1) := by decide +kernel
theorem dX6_count_155 : decode cX6_count 155 = .ok (.aload_n 0, 1) := by decide +kernel
theorem dX6_count_156 : decode cX6_count 156 = .ok (.getfield 26, 3) := by decide +kernel
theorem dX6_count_159 : decode cX6_count 159 = .ok (.getfield 66, 3) := by decide +kernel
theorem dX6_count_162 : decode cX6_count 162 = .ok (.invokevirtual 210, 3) := by decide +kernel
theorem dX6_count_165 : decode cX6_count 165 = .ok (.ireturn, 1) := by decide +kernel
theorem dX6_count_166 : decode cX6_count 166 = .ok (.aload_n 0, 1) := by decide +kernel
theorem dX6_count_167 : decode cX6_count 167 = .ok (.getfield 96, 3) := by decide +kernel
theorem dX6_count_170 : decode cX6_count 170 = .ok (.ireturn, 1) := by decide +kernel
theorem dX6_count_171 : decode cX6_count 171 = .ok (.aload_n 0, 1) := by decide +kernel
theorem dX6_count_172 : decode cX6_count 172 = .ok (.getfield 10, 3) := by decide +kernel
theorem dX6_count_175 : decode cX6_count 175 = .ok (.getfield 80, 3) := by decide +kernel
theorem dX6_count_178 : decode cX6_count 178 = .ok (.ireturn, 1) := by decide +kernel
theorem dX6_count_179 : decode cX6_count 179 = .ok (.aload_n 0, 1) := by decide +kernel
theorem dX6_count_180 : decode cX6_count 180 = .ok (.getfield 129, 3) := by decide +kernel
theorem dX6_count_183 : decode cX6_count 183 = .ok (.ireturn, 1) := by decide +kernel
theorem dX6_count_184 : decode cX6_count 184 = .ok (.iconst (-1), 1) := by decide +kernel
theorem dX6_count_185 : decode cX6_count 185 = .ok (.ireturn, 1) := by decide +kernel
theorem dX6_isNoState_0 : decode cX6_isNoState 0 = .ok (.iload_n 1, 1) := by decide +kernel
theorem dX6_isNoState_1 : decode cX6_isNoState 1 = .ok (.ifCond .lt 14, 3) := by decide +kernel
theorem dX6_isNoState_4 : decode cX6_isNoState 4 = .ok (.iload_n 1, 1) := by decide +kernel
theorem dX6_isNoState_5 : decode cX6_isNoState 5 = .ok (.aload_n 0, 1) := by decide +kernel
theorem dX6_isNoState_6 : decode cX6_isNoState 6 = .ok (.getfield 33, 3) := by decide +kernel
theorem dX6_isNoState_9 : decode cX6_isNoState 9 = .ok (.getfield 99, 3) := by decide +kernel
theorem dX6_isNoState_12 : decode cX6_isNoState 12 = .ok (.if_icmp .lt 7, 3) := by decide +kernel
theorem dX6_isNoState_15 : decode cX6_isNoState 15 = .ok (.iconst 1, 1) := by decide +kernel
theorem dX6_isNoState_16 : decode cX6_isNoState 16 = .ok (.goto 4, 3) := by decide +kernel
theorem dX6_isNoState_19 : decode cX6_isNoState 19 = .ok (.iconst 0, 1) := by decide +kernel
theorem dX6_isNoState_20 : decode cX6_isNoState 20 = .ok (.ireturn, 1) := by decide +kernel
theorem dX6_isNoWord_0 : decode cX6_isNoWord 0 = .ok (.iload_n 1, 1) := by decide +kernel
theorem dX6_isNoWord_1 : decode cX6_isNoWord 1 = .ok (.ifCond .lt 17, 3) := by decide +kernel
theorem dX6_isNoWord_4 : decode cX6_isNoWord 4 = .ok (.iload_n 1, 1) := by decide +kernel
theorem dX6_isNoWord_5 : decode cX6_isNoWord 5 = .ok (.aload_n 0, 1) := by decide +kernel
theorem dX6_isNoWord_6 : decode cX6_isNoWord 6 = .ok (.getfield 26, 3) := by decide +kernel
theorem dX6_isNoWord_9 : decode cX6_isNoWord 9 = .ok (.getfield 59, 3) := by decide +kernel
theorem dX6_isNoWord_12 : decode cX6_isNoWord 12 = .ok (.invokevirtual 213, 3) := by decide +kernel
theorem dX6_isNoWord_15 : decode cX6_isNoWord 15 = .ok (.if_icmp .lt 7, 3) := by decide +kernel
theorem dX6_isNoWord_18 : decode cX6_isNoWord 18 = .ok (.iconst 1, 1) := by decide +kernel
theorem dX6_isNoWord_19 : decode cX6_isNoWord 19 = .ok (.goto 4, 3) := by decide +kernel
theorem dX6_isNoWord_22 : decode cX6_isNoWord 22 = .ok (.iconst 0, 1) := by decide +kernel
theorem dX6_isNoWord_23 : decode cX6_isNoWord 23 = .ok (.ireturn, 1) := by decide +kernel
theorem dX6_isNoImage_0 : decode cX6_isNoImage 0 = .ok (.iload_n 0, 1) := by decide +kernel
theorem dX6_isNoImage_1 : decode cX6_isNoImage 1 = .ok (.ifCond .lt 8, 3) := by decide +kernel
theorem dX6_isNoImage_4 : decode cX6_isNoImage 4 = .ok (.iload_n 0, 1) := by decide +kernel
theorem dX6_isNoImage_5 : decode cX6_isNoImage 5 = .ok (.iconst 2, 1) := by decide +kernel
theorem dX6_isNoImage_6 : decode cX6_isNoImage 6 = .ok (.if_icmp .lt 7, 3) := by decide +kernel
theorem dX6_isNoImage_9 : decode cX6_isNoImage 9 = .ok (.iconst 1, 1) := by decide +kernel
theorem dX6_isNoImage_10 : decode cX6_isNoImage 10 = .ok (.goto 4, 3) := by decide +kernel
theorem dX6_isNoImage_13 : decode cX6_isNoImage 13 = .ok (.iconst 0, 1) := by decide +kernel
theorem dX6_isNoImage_14 : decode cX6_isNoImage 14 = .ok (.ireturn, 1) := by decide +kernel
theorem dX6_remember_0 : decode cX6_remember 0 = .ok (.aload_n 0, 1) := by decide +kernel
theorem dX6_remember_1 : decode cX6_remember 1 = .ok (.getfield 129, 3) := by decide +kernel
theorem dX6_remember_4 : decode cX6_remember 4 = .ok (.bipush 6, 2) := by decide +kernel
theorem dX6_remember_6 : decode cX6_remember 6 = .ok (.if_icmp .lt 50, 3) := by decide +kernel
theorem dX6_remember_9 : decode cX6_remember 9 = .ok (.aload_n 0, 1) := by decide +kernel
theorem dX6_remember_10 : decode cX6_remember 10 = .ok (.getfield 44, 3) := by decide +kernel
theorem dX6_remember_13 : decode cX6_remember 13 = .ok (.iconst 0, 1) := by decide +kernel
theorem dX6_remember_14 : decode cX6_remember 14 = .ok (.aaload, 1) := by decide +kernel
theorem dX6_remember_15 : decode cX6_remember 15 = .ok (.astore_n 1, 1) := by decide +kernel
theorem dX6_remember_16 : decode cX6_remember 16 = .ok (.iconst 1, 1) := by decide +kernel
theorem dX6_remember_17 : decode cX6_remember 17 = .ok (.istore_n 2, 1) := by decide +kernel
theorem dX6_remember_18 : decode cX6_remember 18 = .ok (.iload_n 2, 1) := by decide +kernel
theorem dX6_remember_19 : decode cX6_remember 19 = .ok (.bipush 6, 2) := by decide +kernel
theorem dX6_remember_21 : decode cX6_remember 21 = .ok (.if_icmp .ge 23, 3) := by decide +kernel
theorem dX6_remember_24 : decode cX6_remember 24 = .ok (.aload_n 0, 1) := by decide +kernel
theorem dX6_remember_25 : decode cX6_remember 25 = .ok (.getfield 44, 3) := by decide +kernel
theorem dX6_remember_28 : decode cX6_remember 28 = .ok (.iload_n 2, 1) := by decide +kernel
theorem dX6_remember_29 : decode cX6_remember 29 = .ok (.iconst 1, 1) := by decide +kernel
theorem dX6_remember_30 : decode cX6_remember 30 = .ok (.isub, 1) := by decide +kernel
theorem dX6_remember_31 : decode cX6_remember 31 = .ok (.aload_n 0, 1) := by decide +kernel
theorem dX6_remember_32 : decode cX6_remember 32 = .ok (.getfield 44, 3) := by decide +kernel
theorem dX6_remember_35 : decode cX6_remember 35 = .ok (.iload_n 2, 1) := by decide +kernel
theorem dX6_remember_36 : decode cX6_remember 36 = .ok (.aaload, 1) := by decide +kernel
theorem dX6_remember_37 : decode cX6_remember 37 = .ok (.aastore, 1) := by decide +kernel
theorem dX6_remember_38 : decode cX6_remember 38 = .ok (.iinc 2 1, 3) := by decide +kernel
theorem dX6_remember_41 : decode cX6_remember 41 = .ok (.goto (-23), 3) := by decide +kernel
theorem dX6_remember_44 : decode cX6_remember 44 = .ok (.aload_n 0, 1) := by decide +kernel
theorem dX6_remember_45 : decode cX6_remember 45 = .ok (.getfield 44, 3) := by decide +kernel
theorem dX6_remember_48 : decode cX6_remember 48 = .ok (.iconst 5, 1) := by decide +kernel
theorem dX6_remember_49 : decode cX6_remember 49 = .ok (.aload_n 1, 1) := by decide +kernel
theorem dX6_remember_50 : decode cX6_remember 50 = .ok (.aastore, 1) := by decide +kernel
theorem dX6_remember_51 : decode cX6_remember 51 = .ok (.aload_n 0, 1) := by decide +kernel
theorem dX6_remember_52 : decode cX6_remember 52 = .ok (.iconst 5, 1) := by decide +kernel
theorem dX6_remember_53 : decode cX6_remember 53 = .ok (.putfield 129, 3) := by decide +kernel
theorem dX6_remember_56 : decode cX6_remember 56 = .ok (.aload_n 0, 1) := by decide +kernel
theorem dX6_remember_57 : decode cX6_remember 57 = .ok (.getfield 129, 3) := by decide +kernel
theorem dX6_remember_60 : decode cX6_remember 60 = .ok (.ifCond .ge 7, 3) := by decide +kernel
theorem dX6_remember_63 : decode cX6_remember 63 = .ok (.aconst_null, 1) := by decide +kernel
theorem dX6_remember_64 : decode cX6_remember 64 = .ok (.goto 12, 3) := by decide +kernel
theorem dX6_remember_67 : decode cX6_remember 67 = .ok (.aload_n 0, 1) := by decide +kernel
theorem dX6_remember_68 : decode cX6_remember 68 = .ok (.getfield 44, 3) := by decide +kernel
theorem dX6_remember_71 : decode cX6_remember 71 = .ok (.aload_n 0, 1) := by decide +kernel
theorem dX6_remember_72 : decode cX6_remember 72 = .ok (.getfield 129, 3) := by decide +kernel
theorem dX6_remember_75 : decode cX6_remember 75 = .ok (.aaload, 1) := by decide +kernel
theorem dX6_remember_76 : decode cX6_remember 76 = .ok (.astore_n 1, 1) := by decide +kernel
theorem dX6_remember_77 : decode cX6_remember 77 = .ok (.aload_n 1, 1) := by decide +kernel
theorem dX6_remember_78 : decode cX6_remember 78 = .ok (.ifnull 21, 3) := by decide +kernel
theorem dX6_remember_81 : decode cX6_remember 81 = .ok (.aload_n 1, 1) := by decide +kernel
theorem dX6_remember_82 : decode cX6_remember 82 = .ok (.aload_n 0, 1) := by decide +kernel
theorem dX6_remember_83 : decode cX6_remember 83 = .ok (.getfield 26, 3) := by decide +kernel
theorem dX6_remember_86 : decode cX6_remember 86 = .ok (.invokevirtual 202, 3) := by decide +kernel
theorem dX6_remember_89 : decode cX6_remember 89 = .ok (.aload_n 0, 1) := by decide +kernel
theorem dX6_remember_90 : decode cX6_remember 90 = .ok (.dup, 1) := by decide +kernel
theorem dX6_remember_91 : decode cX6_remember 91 = .ok (.getfield 129, 3) := by decide +kernel
theorem dX6_remember_94 : decode cX6_remember 94 = .ok (.iconst 1, 1) := by decide +kernel
theorem dX6_remember_95 : decode cX6_remember 95 = .ok (.iadd, 1) := by decide +kernel
theorem dX6_remember_96 : decode cX6_remember 96 = .ok (.putfield 129, 3) := by decide +kernel
theorem dX6_remember_99 : decode cX6_remember 99 = .ok (.return_, 1) := by decide +kernel
theorem dX6_become_0 : decode cX6_become 0 = .ok (.aload_n 1, 1) := by decide +kernel
theorem dX6_become_1 : decode cX6_become 1 = .ok (.ifnull 25, 3) := by decide +kernel
theorem dX6_become_4 : decode cX6_become 4 = .ok (.aload_n 0, 1) := by decide +kernel
theorem dX6_become_5 : decode cX6_become 5 = .ok (.getfield 26, 3) := by decide +kernel
theorem dX6_become_8 : decode cX6_become 8 = .ok (.aload_n 1, 1) := by decide +kernel
theorem dX6_become_9 : decode cX6_become 9 = .ok (.invokevirtual 202, 3) := by decide +kernel
theorem dX6_become_12 : decode cX6_become 12 = .ok (.aload_n 0, 1) := by decide +kernel
theorem dX6_become_13 : decode cX6_become 13 = .ok (.getfield 33, 3) := by decide +kernel
theorem dX6_become_16 : decode cX6_become 16 = .ok (.aload_n 0, 1) := by decide +kernel
theorem dX6_become_17 : decode cX6_become 17 = .ok (.getfield 26, 3) := by decide +kernel
theorem dX6_become_20 : decode cX6_become 20 = .ok (.getfield 59, 3) := by decide +kernel
theorem dX6_become_23 : decode cX6_become 23 = .ok (.invokevirtual 62, 3) := by decide +kernel
theorem dX6_become_26 : decode cX6_become 26 = .ok (.return_, 1) := by decide +kernel
theorem dX6_readByStates_0 : decode cX6_readByStates 0 = .ok (.aload_n 0, 1) := by decide +kernel
theorem dX6_readByStates_1 : decode cX6_readByStates 1 = .ok (.getfield 33, 3) := by decide +kernel
theorem dX6_readByStates_4 : decode cX6_readByStates 4 = .ok (.getfield 70, 3) := by decide +kernel
theorem dX6_readByStates_7 : decode cX6_readByStates 7 = .ok (.istore_n 2, 1) := by decide +kernel
theorem dX6_readByStates_8 : decode cX6_readByStates 8 = .ok (.bipush (-9), 2) := by decide +kernel
theorem dX6_readByStates_10 : decode cX6_readByStates 10 = .ok (.istore_n 3, 1) := by decide +kernel
theorem dX6_readByStates_11 : decode cX6_readByStates 11 = .ok (.iconst 0, 1) := by decide +kernel
theorem dX6_readByStates_12 : decode cX6_readByStates 12 = .ok (.istore 4, 2) := by decide +kernel
theorem dX6_readByStates_14 : decode cX6_readByStates 14 = .ok (.iload 4, 2) := by decide +kernel
theorem dX6_readByStates_16 : decode cX6_readByStates 16 = .ok (.iload_n 1, 1) := by decide +kernel
theorem dX6_readByStates_17 : decode cX6_readByStates 17 = .ok (.if_icmp .gt 51, 3) := by decide +kernel
theorem dX6_readByStates_20 : decode cX6_readByStates 20 = .ok (.aload_n 0, 1) := by decide +kernel
theorem dX6_readByStates_21 : decode cX6_readByStates 21 = .ok (.getfield 26, 3) := by decide +kernel
theorem dX6_readByStates_24 : decode cX6_readByStates 24 = .ok (.getfield 66, 3) := by decide +kernel
theorem dX6_readByStates_27 : decode cX6_readByStates 27 = .ok (.iload 4, 2) := by decide +kernel
theorem dX6_readByStates_29 : decode cX6_readByStates 29 = .ok (.invokevirtual 173, 3) := by decide +kernel
theorem dX6_readByStates_32 : decode cX6_readByStates 32 = .ok (.istore 5, 2) := by decide +kernel
theorem dX6_readByStates_34 : decode cX6_readByStates 34 = .ok (.aload_n 0, 1) := by decide +kernel
theorem dX6_readByStates_35 : decode cX6_readByStates 35 = .ok (.getfield 33, 3) := by decide +kernel
theorem dX6_readByStates_38 : decode cX6_readByStates 38 = .ok (.iload_n 2, 1) := by decide +kernel
theorem dX6_readByStates_39 : decode cX6_readByStates 39 = .ok (.iload 5, 2) := by decide +kernel
theorem dX6_readByStates_41 : decode cX6_readByStates 41 = .ok (.invokevirtual 146, 3) := by decide +kernel
theorem dX6_readByStates_44 : decode cX6_readByStates 44 = .ok (.istore_n 3, 1) := by decide +kernel
theorem dX6_readByStates_45 : decode cX6_readByStates 45 = .ok (.iload_n 3, 1) := by decide +kernel
theorem dX6_readByStates_46 : decode cX6_readByStates 46 = .ok (.bipush (-9), 2) := by decide +kernel
theorem dX6_readByStates_48 : decode cX6_readByStates 48 = .ok (.if_icmp .eq 14, 3) := by decide +kernel
theorem dX6_readByStates_51 : decode cX6_readByStates 51 = .ok (.aload_n 0, 1) := by decide +kernel
theorem dX6_readByStates_52 : decode cX6_readByStates 52 = .ok (.getfield 33, 3) := by decide +kernel
theorem dX6_readByStates_55 : decode cX6_readByStates 55 = .ok (.iload_n 2, 1) := by decide +kernel
theorem dX6_readByStates_56 : decode cX6_readByStates 56 = .ok (.iload 5, 2) := by decide +kernel
theorem dX6_readByStates_58 : decode cX6_readByStates 58 = .ok (.invokevirtual 117, 3) := by decide +kernel
theorem dX6_readByStates_61 : decode cX6_readByStates 61 = .ok (.istore_n 2, 1) := by decide +kernel
theorem dX6_readByStates_62 : decode cX6_readByStates 62 = .ok (.iinc 4 1, 3) := by decide +kernel
theorem dX6_readByStates_65 : decode cX6_readByStates 65 = .ok (.goto (-51), 3) := by decide +kernel
theorem dX6_readByStates_68 : decode cX6_readByStates 68 = .ok (.iload_n 3, 1) := by decide +kernel
theorem dX6_readByStates_69 : decode cX6_readByStates 69 = .ok (.ireturn, 1) := by decide +kernel
theorem dX6_readByWindow_0 : decode cX6_readByWindow 0 = .ok (.aload_n 0, 1) := by decide +kernel
theorem dX6_readByWindow_1 : decode cX6_readByWindow 1 = .ok (.getfield 33, 3) := by decide +kernel
theorem dX6_readByWindow_4 : decode cX6_readByWindow 4 = .ok (.getfield 207, 3) := by decide +kernel
theorem dX6_readByWindow_7 : decode cX6_readByWindow 7 = .ok (.istore_n 2, 1) := by decide +kernel
theorem dX6_readByWindow_8 : decode cX6_readByWindow 8 = .ok (.iload_n 2, 1) := by decide +kernel
theorem dX6_readByWindow_9 : decode cX6_readByWindow 9 = .ok (.ifCond .lt 19, 3) := by decide +kernel
theorem dX6_readByWindow_12 : decode cX6_readByWindow 12 = .ok (.iload_n 1, 1) := by decide +kernel
theorem dX6_readByWindow_13 : decode cX6_readByWindow 13 = .ok (.iload_n 2, 1) := by decide +kernel
theorem dX6_readByWindow_14 : decode cX6_readByWindow 14 = .ok (.iadd, 1) := by decide +kernel
theorem dX6_readByWindow_15 : decode cX6_readByWindow 15 = .ok (.aload_n 0, 1) := by decide +kernel
theorem dX6_readByWindow_16 : decode cX6_readByWindow 16 = .ok (.getfield 26, 3) := by decide +kernel
theorem dX6_readByWindow_19 : decode cX6_readByWindow 19 = .ok (.getfield 66, 3) := by decide +kernel
theorem dX6_readByWindow_22 : decode cX6_readByWindow 22 = .ok (.getfield 109, 3) := by decide +kernel
theorem dX6_readByWindow_25 : decode cX6_readByWindow 25 = .ok (.if_icmp .lt 6, 3) := by decide +kernel
theorem dX6_readByWindow_28 : decode cX6_readByWindow 28 = .ok (.bipush (-9), 2) := by decide +kernel
theorem dX6_readByWindow_30 : decode cX6_readByWindow 30 = .ok (.ireturn, 1) := by decide +kernel
theorem dX6_readByWindow_31 : decode cX6_readByWindow 31 = .ok (.iconst 0, 1) := by decide +kernel
theorem dX6_readByWindow_32 : decode cX6_readByWindow 32 = .ok (.istore_n 3, 1) := by decide +kernel
theorem dX6_readByWindow_33 : decode cX6_readByWindow 33 = .ok (.iload_n 3, 1) := by decide +kernel
theorem dX6_readByWindow_34 : decode cX6_readByWindow 34 = .ok (.aload_n 0, 1) := by decide +kernel
theorem dX6_readByWindow_35 : decode cX6_readByWindow 35 = .ok (.getfield 33, 3) := by decide +kernel
theorem dX6_readByWindow_38 : decode cX6_readByWindow 38 = .ok (.getfield 99, 3) := by decide +kernel
theorem dX6_readByWindow_41 : decode cX6_readByWindow 41 = .ok (.if_icmp .ge 56, 3) := by decide +kernel
theorem dX6_readByWindow_44 : decode cX6_readByWindow 44 = .ok (.aload_n 0, 1) := by decide +kernel
theorem dX6_readByWindow_45 : decode cX6_readByWindow 45 = .ok (.getfield 33, 3) := by decide +kernel
theorem dX6_readByWindow_48 : decode cX6_readByWindow 48 = .ok (.iload_n 3, 1) := by decide +kernel
theorem dX6_readByWindow_49 : decode cX6_readByWindow 49 = .ok (.aload_n 0, 1) := by decide +kernel
theorem dX6_readByWindow_50 : decode cX6_readByWindow 50 = .ok (.getfield 26, 3) := by decide +kernel
theorem dX6_readByWindow_53 : decode cX6_readByWindow 53 = .ok (.getfield 66, 3) := by decide +kernel
theorem dX6_readByWindow_56 : decode cX6_readByWindow 56 = .ok (.getfield 216, 3) := by decide +kernel
theorem dX6_readByWindow_59 : decode cX6_readByWindow 59 = .ok (.iload_n 1, 1) := by decide +kernel
theorem dX6_readByWindow_60 : decode cX6_readByWindow 60 = .ok (.iload_n 2, 1) := by decide +kernel
theorem dX6_readByWindow_61 : decode cX6_readByWindow 61 = .ok (.iconst 1, 1) := by decide +kernel
theorem dX6_readByWindow_62 : decode cX6_readByWindow 62 = .ok (.iadd, 1) := by decide +kernel
theorem dX6_readByWindow_63 : decode cX6_readByWindow 63 = .ok (.invokevirtual 219, 3) := by decide +kernel
theorem dX6_readByWindow_66 : decode cX6_readByWindow 66 = .ok (.bipush (-9), 2) := by decide +kernel
theorem dX6_readByWindow_68 : decode cX6_readByWindow 68 = .ok (.if_icmp .eq 23, 3) := by decide +kernel
theorem dX6_readByWindow_71 : decode cX6_readByWindow 71 = .ok (.aload_n 0, 1) := by decide +kernel
theorem dX6_readByWindow_72 : decode cX6_readByWindow 72 = .ok (.getfield 33, 3) := by decide +kernel
theorem dX6_readByWindow_75 : decode cX6_readByWindow 75 = .ok (.iload_n 3, 1) := by decide +kernel
theorem dX6_readByWindow_76 : decode cX6_readByWindow 76 = .ok (.aload_n 0, 1) := by decide +kernel
theorem dX6_readByWindow_77 : decode cX6_readByWindow 77 = .ok (.getfield 26, 3) := by decide +kernel
theorem dX6_readByWindow_80 : decode cX6_readByWindow 80 = .ok (.getfield 66, 3) := by decide +kernel
theorem dX6_readByWindow_83 : decode cX6_readByWindow 83 = .ok (.iload_n 1, 1) := by decide +kernel
theorem dX6_readByWindow_84 : decode cX6_readByWindow 84 = .ok (.invokevirtual 173, 3) := by decide +kernel
theorem dX6_readByWindow_87 : decode cX6_readByWindow 87 = .ok (.invokevirtual 146, 3) := by decide +kernel
theorem dX6_readByWindow_90 : decode cX6_readByWindow 90 = .ok (.ireturn, 1) := by decide +kernel
theorem dX6_readByWindow_91 : decode cX6_readByWindow 91 = .ok (.iinc 3 1, 3) := by decide +kernel
theorem dX6_readByWindow_94 : decode cX6_readByWindow 94 = .ok (.goto (-61), 3) := by decide +kernel
theorem dX6_readByWindow_97 : decode cX6_readByWindow 97 = .ok (.bipush (-9), 2) := by decide +kernel
theorem dX6_readByWindow_99 : decode cX6_readByWindow 99 = .ok (.ireturn, 1) := by decide +kernel
theorem dX6_origins_0 : decode cX6_origins 0 = .ok (.iconst 0, 1) := by decide +kernel
theorem dX6_origins_1 : decode cX6_origins 1 = .ok (.istore_n 1, 1) := by decide +kernel
theorem dX6_origins_2 : decode cX6_origins 2 = .ok (.iconst 0, 1) := by decide +kernel
theorem dX6_origins_3 : decode cX6_origins 3 = .ok (.istore_n 2, 1) := by decide +kernel
theorem dX6_origins_4 : decode cX6_origins 4 = .ok (.iload_n 2, 1) := by decide +kernel
theorem dX6_origins_5 : decode cX6_origins 5 = .ok (.aload_n 0, 1) := by decide +kernel
theorem dX6_origins_6 : decode cX6_origins 6 = .ok (.getfield 33, 3) := by decide +kernel
theorem dX6_origins_9 : decode cX6_origins 9 = .ok (.getfield 99, 3) := by decide +kernel
theorem dX6_origins_12 : decode cX6_origins 12 = .ok (.if_icmp .ge 25, 3) := by decide +kernel
theorem dX6_origins_15 : decode cX6_origins 15 = .ok (.aload_n 0, 1) := by decide +kernel
theorem dX6_origins_16 : decode cX6_origins 16 = .ok (.iload_n 2, 1) := by decide +kernel
theorem dX6_origins_17 : decode cX6_origins 17 = .ok (.invokevirtual 223, 3) := by decide +kernel
theorem dX6_origins_20 : decode cX6_origins 20 = .ok (.bipush (-9), 2) := by decide +kernel
theorem dX6_origins_22 : decode cX6_origins 22 = .ok (.if_icmp .eq 9, 3) := by decide +kernel
theorem dX6_origins_25 : decode cX6_origins 25 = .ok (.iload_n 1, 1) := by decide +kernel
theorem dX6_origins_26 : decode cX6_origins 26 = .ok (.iconst 1, 1) := by decide +kernel
theorem dX6_origins_27 : decode cX6_origins 27 = .ok (.iload_n 2, 1) := by decide +kernel
theorem dX6_origins_28 : decode cX6_origins 28 = .ok (.ishl, 1) := by decide +kernel
theorem dX6_origins_29 : decode cX6_origins 29 = .ok (.ior, 1) := by decide +kernel
theorem dX6_origins_30 : decode cX6_origins 30 = .ok (.istore_n 1, 1) := by decide +kernel
theorem dX6_origins_31 : decode cX6_origins 31 = .ok (.iinc 2 1, 3) := by decide +kernel
theorem dX6_origins_34 : decode cX6_origins 34 = .ok (.goto (-30), 3) := by decide +kernel
theorem dX6_origins_37 : decode cX6_origins 37 = .ok (.iload_n 1, 1) := by decide +kernel
theorem dX6_origins_38 : decode cX6_origins 38 = .ok (.ireturn, 1) := by decide +kernel
theorem dX6_presentStates_0 : decode cX6_presentStates 0 = .ok (.iconst 0, 1) := by decide +kernel
theorem dX6_presentStates_1 : decode cX6_presentStates 1 = .ok (.istore_n 1, 1) := by decide +kernel
theorem dX6_presentStates_2 : decode cX6_presentStates 2 = .ok (.iconst 0, 1) := by decide +kernel
theorem dX6_presentStates_3 : decode cX6_presentStates 3 = .ok (.istore_n 2, 1) := by decide +kernel
theorem dX6_presentStates_4 : decode cX6_presentStates 4 = .ok (.iload_n 2, 1) := by decide +kernel
theorem dX6_presentStates_5 : decode cX6_presentStates 5 = .ok (.aload_n 0, 1) := by decide +kernel
theorem dX6_presentStates_6 : decode cX6_presentStates 6 = .ok (.getfield 33, 3) := by decide +kernel
theorem dX6_presentStates_9 : decode cX6_presentStates 9 = .ok (.getfield 99, 3) := by decide +kernel
theorem dX6_presentStates_12 : decode cX6_presentStates 12 = .ok (.if_icmp .ge 27, 3) := by decide +kernel
theorem dX6_presentStates_15 : decode cX6_presentStates 15 = .ok (.aload_n 0, 1) := by decide +kernel
theorem dX6_presentStates_16 : decode cX6_presentStates 16 = .ok (.iload_n 2, 1) := by decide +kernel
theorem dX6_presentStates_17 : decode cX6_presentStates 17 = .ok (.invokevirtual 223, 3) := by decide +kernel
theorem dX6_presentStates_20 : decode cX6_presentStates 20 = .ok (.istore_n 3, 1) := by decide +kernel
theorem dX6_presentStates_21 : decode cX6_presentStates 21 = .ok (.iload_n 3, 1) := by decide +kernel
theorem dX6_presentStates_22 : decode cX6_presentStates 22 = .ok (.bipush (-9), 2) := by decide +kernel
theorem dX6_presentStates_24 : decode cX6_presentStates 24 = .ok (.if_icmp .eq 9, 3) := by decide +kernel
theorem dX6_presentStates_27 : decode cX6_presentStates 27 = .ok (.iload_n 1, 1) := by decide +kernel
theorem dX6_presentStates_28 : decode cX6_presentStates 28 = .ok (.iconst 1, 1) := by decide +kernel
theorem dX6_presentStates_29 : decode cX6_presentStates 29 = .ok (.iload_n 3, 1) := by decide +kernel
theorem dX6_presentStates_30 : decode cX6_presentStates 30 = .ok (.ishl, 1) := by decide +kernel
theorem dX6_presentStates_31 : decode cX6_presentStates 31 = .ok (.ior, 1) := by decide +kernel
theorem dX6_presentStates_32 : decode cX6_presentStates 32 = .ok (.istore_n 1, 1) := by decide +kernel
theorem dX6_presentStates_33 : decode cX6_presentStates 33 = .ok (.iinc 2 1, 3) := by decide +kernel
theorem dX6_presentStates_36 : decode cX6_presentStates 36 = .ok (.goto (-32), 3) := by decide +kernel
theorem dX6_presentStates_39 : decode cX6_presentStates 39 = .ok (.iload_n 1, 1) := by decide +kernel
theorem dX6_presentStates_40 : decode cX6_presentStates 40 = .ok (.ireturn, 1) := by decide +kernel
theorem dX6_endOfSeen_0 : decode cX6_endOfSeen 0 = .ok (.aload_n 0, 1) := by decide +kernel
theorem dX6_endOfSeen_1 : decode cX6_endOfSeen 1 = .ok (.getfield 33, 3) := by decide +kernel
theorem dX6_endOfSeen_4 : decode cX6_endOfSeen 4 = .ok (.iload_n 1, 1) := by decide +kernel
theorem dX6_endOfSeen_5 : decode cX6_endOfSeen 5 = .ok (.invokevirtual 153, 3) := by decide +kernel
theorem dX6_endOfSeen_8 : decode cX6_endOfSeen 8 = .ok (.ifCond .eq 23, 3) := by decide +kernel
theorem dX6_endOfSeen_11 : decode cX6_endOfSeen 11 = .ok (.aload_n 0, 1) := by decide +kernel
theorem dX6_endOfSeen_12 : decode cX6_endOfSeen 12 = .ok (.getfield 33, 3) := by decide +kernel
theorem dX6_endOfSeen_15 : decode cX6_endOfSeen 15 = .ok (.iload_n 1, 1) := by decide +kernel
theorem dX6_endOfSeen_16 : decode cX6_endOfSeen 16 = .ok (.aload_n 0, 1) := by decide +kernel
theorem dX6_endOfSeen_17 : decode cX6_endOfSeen 17 = .ok (.getfield 55, 3) := by decide +kernel
theorem dX6_endOfSeen_20 : decode cX6_endOfSeen 20 = .ok (.iconst 0, 1) := by decide +kernel
theorem dX6_endOfSeen_21 : decode cX6_endOfSeen 21 = .ok (.aload_n 0, 1) := by decide +kernel
theorem dX6_endOfSeen_22 : decode cX6_endOfSeen 22 = .ok (.getfield 96, 3) := by decide +kernel
theorem dX6_endOfSeen_25 : decode cX6_endOfSeen 25 = .ok (.invokevirtual 219, 3) := by decide +kernel
theorem dX6_endOfSeen_28 : decode cX6_endOfSeen 28 = .ok (.goto 5, 3) := by decide +kernel
theorem dX6_endOfSeen_31 : decode cX6_endOfSeen 31 = .ok (.bipush (-9), 2) := by decide +kernel
theorem dX6_endOfSeen_33 : decode cX6_endOfSeen 33 = .ok (.ireturn, 1) := by decide +kernel
theorem dJ6_bitCount_0f7a4_0 : decode cJ6_bitCount_0f7a4 0 = .ok (.iload_n 0, 1) := by decide +kernel
theorem dJ6_bitCount_0f7a4_1 : decode cJ6_bitCount_0f7a4 1 = .ok (.iload_n 0, 1) := by decide +kernel
theorem dJ6_bitCount_0f7a4_2 : decode cJ6_bitCount_0f7a4 2 = .ok (.iconst 1, 1) := by decide +kernel
theorem dJ6_bitCount_0f7a4_3 : decode cJ6_bitCount_0f7a4 3 = .ok (.iushr, 1) := by decide +kernel
theorem dJ6_bitCount_0f7a4_4 : decode cJ6_bitCount_0f7a4 4 = .ok (.ldc_w 265, 3) := by decide +kernel
theorem dJ6_bitCount_0f7a4_7 : decode cJ6_bitCount_0f7a4 7 = .ok (.iand, 1) := by decide +kernel
theorem dJ6_bitCount_0f7a4_8 : decode cJ6_bitCount_0f7a4 8 = .ok (.isub, 1) := by decide +kernel
theorem dJ6_bitCount_0f7a4_9 : decode cJ6_bitCount_0f7a4 9 = .ok (.istore_n 0, 1) := by decide +kernel
theorem dJ6_bitCount_0f7a4_10 : decode cJ6_bitCount_0f7a4 10 = .ok (.iload_n 0, 1) := by decide +kernel
theorem dJ6_bitCount_0f7a4_11 : decode cJ6_bitCount_0f7a4 11 = .ok (.ldc_w 266, 3) := by decide +kernel
theorem dJ6_bitCount_0f7a4_14 : decode cJ6_bitCount_0f7a4 14 = .ok (.iand, 1) := by decide +kernel
theorem dJ6_bitCount_0f7a4_15 : decode cJ6_bitCount_0f7a4 15 = .ok (.iload_n 0, 1) := by decide +kernel
theorem dJ6_bitCount_0f7a4_16 : decode cJ6_bitCount_0f7a4 16 = .ok (.iconst 2, 1) := by decide +kernel
theorem dJ6_bitCount_0f7a4_17 : decode cJ6_bitCount_0f7a4 17 = .ok (.iushr, 1) := by decide +kernel
theorem dJ6_bitCount_0f7a4_18 : decode cJ6_bitCount_0f7a4 18 = .ok (.ldc_w 266, 3) := by decide +kernel
theorem dJ6_bitCount_0f7a4_21 : decode cJ6_bitCount_0f7a4 21 = .ok (.iand, 1) := by decide +kernel
theorem dJ6_bitCount_0f7a4_22 : decode cJ6_bitCount_0f7a4 22 = .ok (.iadd, 1) := by decide +kernel
theorem dJ6_bitCount_0f7a4_23 : decode cJ6_bitCount_0f7a4 23 = .ok (.istore_n 0, 1) := by decide +kernel
theorem dJ6_bitCount_0f7a4_24 : decode cJ6_bitCount_0f7a4 24 = .ok (.iload_n 0, 1) := by decide +kernel
theorem dJ6_bitCount_0f7a4_25 : decode cJ6_bitCount_0f7a4 25 = .ok (.iload_n 0, 1) := by decide +kernel
theorem dJ6_bitCount_0f7a4_26 : decode cJ6_bitCount_0f7a4 26 = .ok (.iconst 4, 1) := by decide +kernel
theorem dJ6_bitCount_0f7a4_27 : decode cJ6_bitCount_0f7a4 27 = .ok (.iushr, 1) := by decide +kernel
theorem dJ6_bitCount_0f7a4_28 : decode cJ6_bitCount_0f7a4 28 = .ok (.iadd, 1) := by decide +kernel
theorem dJ6_bitCount_0f7a4_29 : decode cJ6_bitCount_0f7a4 29 = .ok (.ldc_w 267, 3) := by decide +kernel
theorem dJ6_bitCount_0f7a4_32 : decode cJ6_bitCount_0f7a4 32 = .ok (.iand, 1) := by decide +kernel
theorem dJ6_bitCount_0f7a4_33 : decode cJ6_bitCount_0f7a4 33 = .ok (.istore_n 0, 1) := by decide +kernel
theorem dJ6_bitCount_0f7a4_34 : decode cJ6_bitCount_0f7a4 34 = .ok (.iload_n 0, 1) := by decide +kernel
theorem dJ6_bitCount_0f7a4_35 : decode cJ6_bitCount_0f7a4 35 = .ok (.iload_n 0, 1) := by decide +kernel
theorem dJ6_bitCount_0f7a4_36 : decode cJ6_bitCount_0f7a4 36 = .ok (.bipush 8, 2) := by decide +kernel
theorem dJ6_bitCount_0f7a4_38 : decode cJ6_bitCount_0f7a4 38 = .ok (.iushr, 1) := by decide +kernel
theorem dJ6_bitCount_0f7a4_39 : decode cJ6_bitCount_0f7a4 39 = .ok (.iadd, 1) := by decide +kernel
theorem dJ6_bitCount_0f7a4_40 : decode cJ6_bitCount_0f7a4 40 = .ok (.istore_n 0, 1) := by decide +kernel
theorem dJ6_bitCount_0f7a4_41 : decode cJ6_bitCount_0f7a4 41 = .ok (.iload_n 0, 1) := by decide +kernel
theorem dJ6_bitCount_0f7a4_42 : decode cJ6_bitCount_0f7a4 42 = .ok (.iload_n 0, 1) := by decide +kernel
theorem dJ6_bitCount_0f7a4_43 : decode cJ6_bitCount_0f7a4 43 = .ok (.bipush 16, 2) := by decide +kernel
theorem dJ6_bitCount_0f7a4_45 : decode cJ6_bitCount_0f7a4 45 = .ok (.iushr, 1) := by decide +kernel
theorem dJ6_bitCount_0f7a4_46 : decode cJ6_bitCount_0f7a4 46 = .ok (.iadd, 1) := by decide +kernel
theorem dJ6_bitCount_0f7a4_47 : decode cJ6_bitCount_0f7a4 47 = .ok (.istore_n 0, 1) := by decide +kernel
theorem dJ6_bitCount_0f7a4_48 : decode cJ6_bitCount_0f7a4 48 = .ok (.iload_n 0, 1) := by decide +kernel
theorem dJ6_bitCount_0f7a4_49 : decode cJ6_bitCount_0f7a4 49 = .ok (.bipush 63, 2) := by decide +kernel
theorem dJ6_bitCount_0f7a4_51 : decode cJ6_bitCount_0f7a4 51 = .ok (.iand, 1) := by decide +kernel
theorem dJ6_bitCount_0f7a4_52 : decode cJ6_bitCount_0f7a4 52 = .ok (.ireturn, 1) := by decide +kernel
theorem dJ9_max_7cf53_0 : decode cJ9_max_7cf53 0 = .ok (.iload_n 0, 1) := by decide +kernel
theorem dJ9_max_7cf53_1 : decode cJ9_max_7cf53 1 = .ok (.iload_n 1, 1) := by decide +kernel
theorem dJ9_max_7cf53_2 : decode cJ9_max_7cf53 2 = .ok (.if_icmp .lt 7, 3) := by decide +kernel
theorem dJ9_max_7cf53_5 : decode cJ9_max_7cf53 5 = .ok (.iload_n 0, 1) := by decide +kernel
theorem dJ9_max_7cf53_6 : decode cJ9_max_7cf53 6 = .ok (.goto 4, 3) := by decide +kernel
theorem dJ9_max_7cf53_9 : decode cJ9_max_7cf53 9 = .ok (.iload_n 1, 1) := by decide +kernel
theorem dJ9_max_7cf53_10 : decode cJ9_max_7cf53 10 = .ok (.ireturn, 1) := by decide +kernel
theorem dJ9_min_7cf53_0 : decode cJ9_min_7cf53 0 = .ok (.iload_n 0, 1) := by decide +kernel
theorem dJ9_min_7cf53_1 : decode cJ9_min_7cf53 1 = .ok (.iload_n 1, 1) := by decide +kernel
theorem dJ9_min_7cf53_2 : decode cJ9_min_7cf53 2 = .ok (.if_icmp .gt 7, 3) := by decide +kernel
theorem dJ9_min_7cf53_5 : decode cJ9_min_7cf53 5 = .ok (.iload_n 0, 1) := by decide +kernel
theorem dJ9_min_7cf53_6 : decode cJ9_min_7cf53 6 = .ok (.goto 4, 3) := by decide +kernel
theorem dJ9_min_7cf53_9 : decode cJ9_min_7cf53 9 = .ok (.iload_n 1, 1) := by decide +kernel
theorem dJ9_min_7cf53_10 : decode cJ9_min_7cf53 10 = .ok (.ireturn, 1) := by decide +kernel
