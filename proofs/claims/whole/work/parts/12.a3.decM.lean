theorem dX10_init_0 : decode cX10_init 0 = .ok (.aload_n 0, 1) := by decide +kernel
theorem dX10_init_1 : decode cX10_init 1 = .ok (.invokespecial 1, 3) := by decide +kernel
theorem dX10_init_4 : decode cX10_init 4 = .ok (.aload_n 0, 1) := by decide +kernel
theorem dX10_init_5 : decode cX10_init 5 = .ok (.sipush 400, 3) := by decide +kernel
theorem dX10_init_8 : decode cX10_init 8 = .ok (.newarray .int, 2) := by decide +kernel
theorem dX10_init_10 : decode cX10_init 10 = .ok (.putfield 7, 3) := by decide +kernel
theorem dX10_init_13 : decode cX10_init 13 = .ok (.aload_n 0, 1) := by decide +kernel
theorem dX10_init_14 : decode cX10_init 14 = .ok (.sipush 400, 3) := by decide +kernel
theorem dX10_init_17 : decode cX10_init 17 = .ok (.newarray .int, 2) := by decide +kernel
theorem dX10_init_19 : decode cX10_init 19 = .ok (.putfield 13, 3) := by decide +kernel
theorem dX10_init_22 : decode cX10_init 22 = .ok (.aload_n 0, 1) := by decide +kernel
theorem dX10_init_23 : decode cX10_init 23 = .ok (.sipush 400, 3) := by decide +kernel
theorem dX10_init_26 : decode cX10_init 26 = .ok (.newarray .int, 2) := by decide +kernel
theorem dX10_init_28 : decode cX10_init 28 = .ok (.putfield 16, 3) := by decide +kernel
theorem dX10_init_31 : decode cX10_init 31 = .ok (.aload_n 0, 1) := by decide +kernel
theorem dX10_init_32 : decode cX10_init 32 = .ok (.sipush 3200, 3) := by decide +kernel
theorem dX10_init_35 : decode cX10_init 35 = .ok (.newarray .int, 2) := by decide +kernel
theorem dX10_init_37 : decode cX10_init 37 = .ok (.putfield 19, 3) := by decide +kernel
theorem dX10_init_40 : decode cX10_init 40 = .ok (.aload_n 0, 1) := by decide +kernel
theorem dX10_init_41 : decode cX10_init 41 = .ok (.bipush 64, 2) := by decide +kernel
theorem dX10_init_43 : decode cX10_init 43 = .ok (.newarray .long, 2) := by decide +kernel
theorem dX10_init_45 : decode cX10_init 45 = .ok (.putfield 22, 3) := by decide +kernel
theorem dX10_init_48 : decode cX10_init 48 = .ok (.aload_n 0, 1) := by decide +kernel
theorem dX10_init_49 : decode cX10_init 49 = .ok (.bipush 64, 2) := by decide +kernel
theorem dX10_init_51 : decode cX10_init 51 = .ok (.newarray .long, 2) := by decide +kernel
theorem dX10_init_53 : decode cX10_init 53 = .ok (.putfield 26, 3) := by decide +kernel
theorem dX10_init_56 : decode cX10_init 56 = .ok (.aload_n 0, 1) := by decide +kernel
theorem dX10_init_57 : decode cX10_init 57 = .ok (.sipush 512, 3) := by decide +kernel
theorem dX10_init_60 : decode cX10_init 60 = .ok (.newarray .long, 2) := by decide +kernel
theorem dX10_init_62 : decode cX10_init 62 = .ok (.putfield 29, 3) := by decide +kernel
theorem dX10_init_65 : decode cX10_init 65 = .ok (.aload_n 0, 1) := by decide +kernel
theorem dX10_init_66 : decode cX10_init 66 = .ok (.bipush 10, 2) := by decide +kernel
theorem dX10_init_68 : decode cX10_init 68 = .ok (.newarray .int, 2) := by decide +kernel
theorem dX10_init_70 : decode cX10_init 70 = .ok (.putfield 32, 3) := by decide +kernel
theorem dX10_init_73 : decode cX10_init 73 = .ok (.aload_n 0, 1) := by decide +kernel
theorem dX10_init_74 : decode cX10_init 74 = .ok (.sipush 700, 3) := by decide +kernel
theorem dX10_init_77 : decode cX10_init 77 = .ok (.newarray .int, 2) := by decide +kernel
theorem dX10_init_79 : decode cX10_init 79 = .ok (.putfield 35, 3) := by decide +kernel
theorem dX10_init_82 : decode cX10_init 82 = .ok (.aload_n 0, 1) := by decide +kernel
theorem dX10_init_83 : decode cX10_init 83 = .ok (.iconst (-1), 1) := by decide +kernel
theorem dX10_init_84 : decode cX10_init 84 = .ok (.putfield 38, 3) := by decide +kernel
theorem dX10_init_87 : decode cX10_init 87 = .ok (.aload_n 0, 1) := by decide +kernel
theorem dX10_init_88 : decode cX10_init 88 = .ok (.bipush 64, 2) := by decide +kernel
theorem dX10_init_90 : decode cX10_init 90 = .ok (.newarray .int, 2) := by decide +kernel
theorem dX10_init_92 : decode cX10_init 92 = .ok (.putfield 42, 3) := by decide +kernel
theorem dX10_init_95 : decode cX10_init 95 = .ok (.aload_n 0, 1) := by decide +kernel
theorem dX10_init_96 : decode cX10_init 96 = .ok (.bipush 64, 2) := by decide +kernel
theorem dX10_init_98 : decode cX10_init 98 = .ok (.newarray .int, 2) := by decide +kernel
theorem dX10_init_100 : decode cX10_init 100 = .ok (.putfield 45, 3) := by decide +kernel
theorem dX10_init_103 : decode cX10_init 103 = .ok (.aload_n 0, 1) := by decide +kernel
theorem dX10_init_104 : decode cX10_init 104 = .ok (.sipush 250, 3) := by decide +kernel
theorem dX10_init_107 : decode cX10_init 107 = .ok (.newarray .int, 2) := by decide +kernel
theorem dX10_init_109 : decode cX10_init 109 = .ok (.putfield 48, 3) := by decide +kernel
theorem dX10_init_112 : decode cX10_init 112 = .ok (.aload_n 0, 1) := by decide +kernel
theorem dX10_init_113 : decode cX10_init 113 = .ok (.invokevirtual 51, 3) := by decide +kernel
theorem dX10_init_116 : decode cX10_init 116 = .ok (.return_, 1) := by decide +kernel
theorem dX10_thrown_0 : decode cX10_thrown 0 = .ok (.aload_n 0, 1) := by decide +kernel
theorem dX10_thrown_1 : decode cX10_thrown 1 = .ok (.getfield 54, 3) := by decide +kernel
theorem dX10_thrown_4 : decode cX10_thrown 4 = .ok (.ireturn, 1) := by decide +kernel
theorem dX10_inRange_0 : decode cX10_inRange 0 = .ok (.lload_n 0, 1) := by decide +kernel
theorem dX10_inRange_1 : decode cX10_inRange 1 = .ok (.lload_n 2, 1) := by decide +kernel
theorem dX10_inRange_2 : decode cX10_inRange 2 = .ok (.lcmp, 1) := by decide +kernel
theorem dX10_inRange_3 : decode cX10_inRange 3 = .ok (.ifCond .lt 14, 3) := by decide +kernel
theorem dX10_inRange_6 : decode cX10_inRange 6 = .ok (.lload_n 0, 1) := by decide +kernel
theorem dX10_inRange_7 : decode cX10_inRange 7 = .ok (.lload 4, 2) := by decide +kernel
theorem dX10_inRange_9 : decode cX10_inRange 9 = .ok (.lcmp, 1) := by decide +kernel
theorem dX10_inRange_10 : decode cX10_inRange 10 = .ok (.ifCond .gt 7, 3) := by decide +kernel
theorem dX10_inRange_13 : decode cX10_inRange 13 = .ok (.iconst 1, 1) := by decide +kernel
theorem dX10_inRange_14 : decode cX10_inRange 14 = .ok (.goto 4, 3) := by decide +kernel
theorem dX10_inRange_17 : decode cX10_inRange 17 = .ok (.iconst 0, 1) := by decide +kernel
theorem dX10_inRange_18 : decode cX10_inRange 18 = .ok (.ireturn, 1) := by decide +kernel
theorem dX10_fails_0 : decode cX10_fails 0 = .ok (.iload_n 1, 1) := by decide +kernel
theorem dX10_fails_1 : decode cX10_fails 1 = .ok (.ifCond .eq 8, 3) := by decide +kernel
theorem dX10_fails_4 : decode cX10_fails 4 = .ok (.aload_n 0, 1) := by decide +kernel
theorem dX10_fails_5 : decode cX10_fails 5 = .ok (.iload_n 2, 1) := by decide +kernel
theorem dX10_fails_6 : decode cX10_fails 6 = .ok (.putfield 54, 3) := by decide +kernel
theorem dX10_fails_9 : decode cX10_fails 9 = .ok (.iload_n 1, 1) := by decide +kernel
theorem dX10_fails_10 : decode cX10_fails 10 = .ok (.ireturn, 1) := by decide +kernel
theorem dX10_copies_0 : decode cX10_copies 0 = .ok (.iconst 0, 1) := by decide +kernel
theorem dX10_copies_1 : decode cX10_copies 1 = .ok (.istore 5, 2) := by decide +kernel
theorem dX10_copies_3 : decode cX10_copies 3 = .ok (.iload 5, 2) := by decide +kernel
theorem dX10_copies_5 : decode cX10_copies 5 = .ok (.iload 4, 2) := by decide +kernel
theorem dX10_copies_7 : decode cX10_copies 7 = .ok (.if_icmp .ge 21, 3) := by decide +kernel
theorem dX10_copies_10 : decode cX10_copies 10 = .ok (.aload_n 2, 1) := by decide +kernel
theorem dX10_copies_11 : decode cX10_copies 11 = .ok (.iload_n 3, 1) := by decide +kernel
theorem dX10_copies_12 : decode cX10_copies 12 = .ok (.iload 5, 2) := by decide +kernel
theorem dX10_copies_14 : decode cX10_copies 14 = .ok (.iadd, 1) := by decide +kernel
theorem dX10_copies_15 : decode cX10_copies 15 = .ok (.aload_n 0, 1) := by decide +kernel
theorem dX10_copies_16 : decode cX10_copies 16 = .ok (.iload_n 1, 1) := by decide +kernel
theorem dX10_copies_17 : decode cX10_copies 17 = .ok (.iload 5, 2) := by decide +kernel
theorem dX10_copies_19 : decode cX10_copies 19 = .ok (.iadd, 1) := by decide +kernel
theorem dX10_copies_20 : decode cX10_copies 20 = .ok (.iaload, 1) := by decide +kernel
theorem dX10_copies_21 : decode cX10_copies 21 = .ok (.iastore, 1) := by decide +kernel
theorem dX10_copies_22 : decode cX10_copies 22 = .ok (.iinc 5 1, 3) := by decide +kernel
theorem dX10_copies_25 : decode cX10_copies 25 = .ok (.goto (-22), 3) := by decide +kernel
theorem dX10_copies_28 : decode cX10_copies 28 = .ok (.return_, 1) := by decide +kernel
theorem dX10_copiesLong_0 : decode cX10_copiesLong 0 = .ok (.iconst 0, 1) := by decide +kernel
theorem dX10_copiesLong_1 : decode cX10_copiesLong 1 = .ok (.istore 5, 2) := by decide +kernel
theorem dX10_copiesLong_3 : decode cX10_copiesLong 3 = .ok (.iload 5, 2) := by decide +kernel
theorem dX10_copiesLong_5 : decode cX10_copiesLong 5 = .ok (.iload 4, 2) := by decide +kernel
theorem dX10_copiesLong_7 : decode cX10_copiesLong 7 = .ok (.if_icmp .ge 21, 3) := by decide +kernel
theorem dX10_copiesLong_10 : decode cX10_copiesLong 10 = .ok (.aload_n 2, 1) := by decide +kernel
theorem dX10_copiesLong_11 : decode cX10_copiesLong 11 = .ok (.iload_n 3, 1) := by decide +kernel
theorem dX10_copiesLong_12 : decode cX10_copiesLong 12 = .ok (.iload 5, 2) := by decide +kernel
theorem dX10_copiesLong_14 : decode cX10_copiesLong 14 = .ok (.iadd, 1) := by decide +kernel
theorem dX10_copiesLong_15 : decode cX10_copiesLong 15 = .ok (.aload_n 0, 1) := by decide +kernel
theorem dX10_copiesLong_16 : decode cX10_copiesLong 16 = .ok (.iload_n 1, 1) := by decide +kernel
theorem dX10_copiesLong_17 : decode cX10_copiesLong 17 = .ok (.iload 5, 2) := by decide +kernel
theorem dX10_copiesLong_19 : decode cX10_copiesLong 19 = .ok (.iadd, 1) := by decide +kernel
theorem dX10_copiesLong_20 : decode cX10_copiesLong 20 = .ok (.laload, 1) := by decide +kernel
theorem dX10_copiesLong_21 : decode cX10_copiesLong 21 = .ok (.lastore, 1) := by decide +kernel
theorem dX10_copiesLong_22 : decode cX10_copiesLong 22 = .ok (.iinc 5 1, 3) := by decide +kernel
theorem dX10_copiesLong_25 : decode cX10_copiesLong 25 = .ok (.goto (-22), 3) := by decide +kernel
theorem dX10_copiesLong_28 : decode cX10_copiesLong 28 = .ok (.return_, 1) := by decide +kernel
theorem dX10_leastOf_0 : decode cX10_leastOf 0 = .ok (.iload_n 0, 1) := by decide +kernel
theorem dX10_leastOf_1 : decode cX10_leastOf 1 = .ok (.iconst 1, 1) := by decide +kernel
theorem dX10_leastOf_2 : decode cX10_leastOf 2 = .ok (.if_icmp .ne 8, 3) := by decide +kernel
theorem dX10_leastOf_5 : decode cX10_leastOf 5 = .ok (.bipush 10, 2) := by decide +kernel
theorem dX10_leastOf_7 : decode cX10_leastOf 7 = .ok (.goto 17, 3) := by decide +kernel
theorem dX10_leastOf_10 : decode cX10_leastOf 10 = .ok (.iload_n 0, 1) := by decide +kernel
theorem dX10_leastOf_11 : decode cX10_leastOf 11 = .ok (.ifCond .eq 8, 3) := by decide +kernel
theorem dX10_leastOf_14 : decode cX10_leastOf 14 = .ok (.iload_n 0, 1) := by decide +kernel
theorem dX10_leastOf_15 : decode cX10_leastOf 15 = .ok (.iconst 2, 1) := by decide +kernel
theorem dX10_leastOf_16 : decode cX10_leastOf 16 = .ok (.if_icmp .ne 7, 3) := by decide +kernel
theorem dX10_leastOf_19 : decode cX10_leastOf 19 = .ok (.iconst 1, 1) := by decide +kernel
theorem dX10_leastOf_20 : decode cX10_leastOf 20 = .ok (.goto 4, 3) := by decide +kernel
theorem dX10_leastOf_23 : decode cX10_leastOf 23 = .ok (.iconst 0, 1) := by decide +kernel
theorem dX10_leastOf_24 : decode cX10_leastOf 24 = .ok (.ireturn, 1) := by decide +kernel
theorem dX10_mostOf_0 : decode cX10_mostOf 0 = .ok (.iload_n 0, 1) := by decide +kernel
theorem dX10_mostOf_1 : decode cX10_mostOf 1 = .ok (.iconst 2, 1) := by decide +kernel
theorem dX10_mostOf_2 : decode cX10_mostOf 2 = .ok (.if_icmp .eq 8, 3) := by decide +kernel
theorem dX10_mostOf_5 : decode cX10_mostOf 5 = .ok (.iload_n 0, 1) := by decide +kernel
theorem dX10_mostOf_6 : decode cX10_mostOf 6 = .ok (.iconst 5, 1) := by decide +kernel
theorem dX10_mostOf_7 : decode cX10_mostOf 7 = .ok (.if_icmp .ne 9, 3) := by decide +kernel
theorem dX10_mostOf_10 : decode cX10_mostOf 10 = .ok (.sipush 9999, 3) := by decide +kernel
theorem dX10_mostOf_13 : decode cX10_mostOf 13 = .ok (.goto 6, 3) := by decide +kernel
theorem dX10_mostOf_16 : decode cX10_mostOf 16 = .ok (.sipush 999, 3) := by decide +kernel
theorem dX10_mostOf_19 : decode cX10_mostOf 19 = .ok (.ireturn, 1) := by decide +kernel
theorem dX10_clear_0 : decode cX10_clear 0 = .ok (.iconst 0, 1) := by decide +kernel
theorem dX10_clear_1 : decode cX10_clear 1 = .ok (.istore_n 1, 1) := by decide +kernel
theorem dX10_clear_2 : decode cX10_clear 2 = .ok (.iload_n 1, 1) := by decide +kernel
theorem dX10_clear_3 : decode cX10_clear 3 = .ok (.sipush 400, 3) := by decide +kernel
theorem dX10_clear_6 : decode cX10_clear 6 = .ok (.if_icmp .ge 16, 3) := by decide +kernel
theorem dX10_clear_9 : decode cX10_clear 9 = .ok (.aload_n 0, 1) := by decide +kernel
theorem dX10_clear_10 : decode cX10_clear 10 = .ok (.getfield 7, 3) := by decide +kernel
theorem dX10_clear_13 : decode cX10_clear 13 = .ok (.iload_n 1, 1) := by decide +kernel
theorem dX10_clear_14 : decode cX10_clear 14 = .ok (.iconst 0, 1) := by decide +kernel
theorem dX10_clear_15 : decode cX10_clear 15 = .ok (.iastore, 1) := by decide +kernel
theorem dX10_clear_16 : decode cX10_clear 16 = .ok (.iinc 1 1, 3) := by decide +kernel
theorem dX10_clear_19 : decode cX10_clear 19 = .ok (.goto (-17), 3) := by decide +kernel
theorem dX10_clear_22 : decode cX10_clear 22 = .ok (.aload_n 0, 1) := by decide +kernel
theorem dX10_clear_23 : decode cX10_clear 23 = .ok (.getfield 7, 3) := by decide +kernel
theorem dX10_clear_26 : decode cX10_clear 26 = .ok (.iconst 0, 1) := by decide +kernel
theorem dX10_clear_27 : decode cX10_clear 27 = .ok (.bipush 10, 2) := by decide +kernel
theorem dX10_clear_29 : decode cX10_clear 29 = .ok (.iastore, 1) := by decide +kernel
theorem dX10_clear_30 : decode cX10_clear 30 = .ok (.aload_n 0, 1) := by decide +kernel
theorem dX10_clear_31 : decode cX10_clear 31 = .ok (.getfield 7, 3) := by decide +kernel
theorem dX10_clear_34 : decode cX10_clear 34 = .ok (.iconst 1, 1) := by decide +kernel
theorem dX10_clear_35 : decode cX10_clear 35 = .ok (.sipush 150, 3) := by decide +kernel
theorem dX10_clear_38 : decode cX10_clear 38 = .ok (.iastore, 1) := by decide +kernel
theorem dX10_clear_39 : decode cX10_clear 39 = .ok (.aload_n 0, 1) := by decide +kernel
theorem dX10_clear_40 : decode cX10_clear 40 = .ok (.getfield 7, 3) := by decide +kernel
theorem dX10_clear_43 : decode cX10_clear 43 = .ok (.iconst 2, 1) := by decide +kernel
theorem dX10_clear_44 : decode cX10_clear 44 = .ok (.bipush 100, 2) := by decide +kernel
theorem dX10_clear_46 : decode cX10_clear 46 = .ok (.iastore, 1) := by decide +kernel
theorem dX10_clear_47 : decode cX10_clear 47 = .ok (.aload_n 0, 1) := by decide +kernel
theorem dX10_clear_48 : decode cX10_clear 48 = .ok (.getfield 7, 3) := by decide +kernel
theorem dX10_clear_51 : decode cX10_clear 51 = .ok (.iconst 3, 1) := by decide +kernel
theorem dX10_clear_52 : decode cX10_clear 52 = .ok (.iconst 1, 1) := by decide +kernel
theorem dX10_clear_53 : decode cX10_clear 53 = .ok (.iastore, 1) := by decide +kernel
theorem dX10_clear_54 : decode cX10_clear 54 = .ok (.aload_n 0, 1) := by decide +kernel
theorem dX10_clear_55 : decode cX10_clear 55 = .ok (.getfield 7, 3) := by decide +kernel
theorem dX10_clear_58 : decode cX10_clear 58 = .ok (.iconst 4, 1) := by decide +kernel
theorem dX10_clear_59 : decode cX10_clear 59 = .ok (.iconst 5, 1) := by decide +kernel
theorem dX10_clear_60 : decode cX10_clear 60 = .ok (.iastore, 1) := by decide +kernel
theorem dX10_clear_61 : decode cX10_clear 61 = .ok (.aload_n 0, 1) := by decide +kernel
theorem dX10_clear_62 : decode cX10_clear 62 = .ok (.getfield 7, 3) := by decide +kernel
theorem dX10_clear_65 : decode cX10_clear 65 = .ok (.iconst 5, 1) := by decide +kernel
theorem dX10_clear_66 : decode cX10_clear 66 = .ok (.bipush 100, 2) := by decide +kernel
theorem dX10_clear_68 : decode cX10_clear 68 = .ok (.iastore, 1) := by decide +kernel
theorem dX10_clear_69 : decode cX10_clear 69 = .ok (.aload_n 0, 1) := by decide +kernel
theorem dX10_clear_70 : decode cX10_clear 70 = .ok (.getfield 7, 3) := by decide +kernel
theorem dX10_clear_73 : decode cX10_clear 73 = .ok (.bipush 11, 2) := by decide +kernel
theorem dX10_clear_75 : decode cX10_clear 75 = .ok (.sipush 1000, 3) := by decide +kernel
theorem dX10_clear_78 : decode cX10_clear 78 = .ok (.iastore, 1) := by decide +kernel
theorem dX10_clear_79 : decode cX10_clear 79 = .ok (.aload_n 0, 1) := by decide +kernel
theorem dX10_clear_80 : decode cX10_clear 80 = .ok (.getfield 7, 3) := by decide +kernel
theorem dX10_clear_83 : decode cX10_clear 83 = .ok (.bipush 16, 2) := by decide +kernel
theorem dX10_clear_85 : decode cX10_clear 85 = .ok (.iconst 2, 1) := by decide +kernel
theorem dX10_clear_86 : decode cX10_clear 86 = .ok (.iastore, 1) := by decide +kernel
theorem dX10_clear_87 : decode cX10_clear 87 = .ok (.aload_n 0, 1) := by decide +kernel
theorem dX10_clear_88 : decode cX10_clear 88 = .ok (.getfield 7, 3) := by decide +kernel
theorem dX10_clear_91 : decode cX10_clear 91 = .ok (.bipush 18, 2) := by decide +kernel
theorem dX10_clear_93 : decode cX10_clear 93 = .ok (.bipush 100, 2) := by decide +kernel
theorem dX10_clear_95 : decode cX10_clear 95 = .ok (.iastore, 1) := by decide +kernel
theorem dX10_clear_96 : decode cX10_clear 96 = .ok (.aload_n 0, 1) := by decide +kernel
theorem dX10_clear_97 : decode cX10_clear 97 = .ok (.getfield 7, 3) := by decide +kernel
theorem dX10_clear_100 : decode cX10_clear 100 = .ok (.bipush 19, 2) := by decide +kernel
theorem dX10_clear_102 : decode cX10_clear 102 = .ok (.iconst 2, 1) := by decide +kernel
theorem dX10_clear_103 : decode cX10_clear 103 = .ok (.iastore, 1) := by decide +kernel
theorem dX10_clear_104 : decode cX10_clear 104 = .ok (.aload_n 0, 1) := by decide +kernel
theorem dX10_clear_105 : decode cX10_clear 105 = .ok (.getfield 7, 3) := by decide +kernel
theorem dX10_clear_108 : decode cX10_clear 108 = .ok (.bipush 20, 2) := by decide +kernel
theorem dX10_clear_110 : decode cX10_clear 110 = .ok (.sipush 200, 3) := by decide +kernel
theorem dX10_clear_113 : decode cX10_clear 113 = .ok (.iastore, 1) := by decide +kernel
theorem dX10_clear_114 : decode cX10_clear 114 = .ok (.return_, 1) := by decide +kernel
theorem dX10_remembers_0 : decode cX10_remembers 0 = .ok (.aload_n 0, 1) := by decide +kernel
theorem dX10_remembers_1 : decode cX10_remembers 1 = .ok (.getfield 57, 3) := by decide +kernel
theorem dX10_remembers_4 : decode cX10_remembers 4 = .ok (.bipush 8, 2) := by decide +kernel
theorem dX10_remembers_6 : decode cX10_remembers 6 = .ok (.if_icmp .ne 48, 3) := by decide +kernel
theorem dX10_remembers_9 : decode cX10_remembers 9 = .ok (.aload_n 0, 1) := by decide +kernel
theorem dX10_remembers_10 : decode cX10_remembers 10 = .ok (.getfield 19, 3) := by decide +kernel
theorem dX10_remembers_13 : decode cX10_remembers 13 = .ok (.sipush 400, 3) := by decide +kernel
theorem dX10_remembers_16 : decode cX10_remembers 16 = .ok (.aload_n 0, 1) := by decide +kernel
theorem dX10_remembers_17 : decode cX10_remembers 17 = .ok (.getfield 19, 3) := by decide +kernel
theorem dX10_remembers_20 : decode cX10_remembers 20 = .ok (.iconst 0, 1) := by decide +kernel
theorem dX10_remembers_21 : decode cX10_remembers 21 = .ok (.sipush 2800, 3) := by decide +kernel
theorem dX10_remembers_24 : decode cX10_remembers 24 = .ok (.invokestatic 60, 3) := by decide +kernel
theorem dX10_remembers_27 : decode cX10_remembers 27 = .ok (.aload_n 0, 1) := by decide +kernel
theorem dX10_remembers_28 : decode cX10_remembers 28 = .ok (.getfield 29, 3) := by decide +kernel
theorem dX10_remembers_31 : decode cX10_remembers 31 = .ok (.bipush 64, 2) := by decide +kernel
theorem dX10_remembers_33 : decode cX10_remembers 33 = .ok (.aload_n 0, 1) := by decide +kernel
theorem dX10_remembers_34 : decode cX10_remembers 34 = .ok (.getfield 29, 3) := by decide +kernel
theorem dX10_remembers_37 : decode cX10_remembers 37 = .ok (.iconst 0, 1) := by decide +kernel
theorem dX10_remembers_38 : decode cX10_remembers 38 = .ok (.sipush 448, 3) := by decide +kernel
theorem dX10_remembers_41 : decode cX10_remembers 41 = .ok (.invokestatic 64, 3) := by decide +kernel
theorem dX10_remembers_44 : decode cX10_remembers 44 = .ok (.aload_n 0, 1) := by decide +kernel
theorem dX10_remembers_45 : decode cX10_remembers 45 = .ok (.dup, 1) := by decide +kernel
theorem dX10_remembers_46 : decode cX10_remembers 46 = .ok (.getfield 57, 3) := by decide +kernel
theorem dX10_remembers_49 : decode cX10_remembers 49 = .ok (.iconst 1, 1) := by decide +kernel
theorem dX10_remembers_50 : decode cX10_remembers 50 = .ok (.isub, 1) := by decide +kernel
theorem dX10_remembers_51 : decode cX10_remembers 51 = .ok (.putfield 57, 3) := by decide +kernel
theorem dX10_remembers_54 : decode cX10_remembers 54 = .ok (.aload_n 0, 1) := by decide +kernel
theorem dX10_remembers_55 : decode cX10_remembers 55 = .ok (.getfield 7, 3) := by decide +kernel
theorem dX10_remembers_58 : decode cX10_remembers 58 = .ok (.iconst 0, 1) := by decide +kernel
theorem dX10_remembers_59 : decode cX10_remembers 59 = .ok (.aload_n 0, 1) := by decide +kernel
theorem dX10_remembers_60 : decode cX10_remembers 60 = .ok (.getfield 19, 3) := by decide +kernel
theorem dX10_remembers_63 : decode cX10_remembers 63 = .ok (.sipush 400, 3) := by decide +kernel
theorem dX10_remembers_66 : decode cX10_remembers 66 = .ok (.aload_n 0, 1) := by decide +kernel
theorem dX10_remembers_67 : decode cX10_remembers 67 = .ok (.getfield 57, 3) := by decide +kernel
theorem dX10_remembers_70 : decode cX10_remembers 70 = .ok (.imul, 1) := by decide +kernel
theorem dX10_remembers_71 : decode cX10_remembers 71 = .ok (.sipush 400, 3) := by decide +kernel
theorem dX10_remembers_74 : decode cX10_remembers 74 = .ok (.invokestatic 60, 3) := by decide +kernel
theorem dX10_remembers_77 : decode cX10_remembers 77 = .ok (.aload_n 0, 1) := by decide +kernel
theorem dX10_remembers_78 : decode cX10_remembers 78 = .ok (.getfield 22, 3) := by decide +kernel
theorem dX10_remembers_81 : decode cX10_remembers 81 = .ok (.iconst 0, 1) := by decide +kernel
theorem dX10_remembers_82 : decode cX10_remembers 82 = .ok (.aload_n 0, 1) := by decide +kernel
theorem dX10_remembers_83 : decode cX10_remembers 83 = .ok (.getfield 29, 3) := by decide +kernel
theorem dX10_remembers_86 : decode cX10_remembers 86 = .ok (.bipush 64, 2) := by decide +kernel
theorem dX10_remembers_88 : decode cX10_remembers 88 = .ok (.aload_n 0, 1) := by decide +kernel
theorem dX10_remembers_89 : decode cX10_remembers 89 = .ok (.getfield 57, 3) := by decide +kernel
theorem dX10_remembers_92 : decode cX10_remembers 92 = .ok (.imul, 1) := by decide +kernel
theorem dX10_remembers_93 : decode cX10_remembers 93 = .ok (.bipush 64, 2) := by decide +kernel
theorem dX10_remembers_95 : decode cX10_remembers 95 = .ok (.invokestatic 64, 3) := by decide +kernel
theorem dX10_remembers_98 : decode cX10_remembers 98 = .ok (.aload_n 0, 1) := by decide +kernel
theorem dX10_remembers_99 : decode cX10_remembers 99 = .ok (.dup, 1) := by decide +kernel
theorem dX10_remembers_100 : decode cX10_remembers 100 = .ok (.getfield 57, 3) := by decide +kernel
theorem dX10_remembers_103 : decode cX10_remembers 103 = .ok (.iconst 1, 1) := by decide +kernel
theorem dX10_remembers_104 : decode cX10_remembers 104 = .ok (.iadd, 1) := by decide +kernel
theorem dX10_remembers_105 : decode cX10_remembers 105 = .ok (.putfield 57, 3) := by decide +kernel
theorem dX10_remembers_108 : decode cX10_remembers 108 = .ok (.return_, 1) := by decide +kernel
theorem dX10_cells_0 : decode cX10_cells 0 = .ok (.aload_n 0, 1) := by decide +kernel
theorem dX10_cells_1 : decode cX10_cells 1 = .ok (.getfield 7, 3) := by decide +kernel
theorem dX10_cells_4 : decode cX10_cells 4 = .ok (.bipush 6, 2) := by decide +kernel
theorem dX10_cells_6 : decode cX10_cells 6 = .ok (.iaload, 1) := by decide +kernel
theorem dX10_cells_7 : decode cX10_cells 7 = .ok (.aload_n 0, 1) := by decide +kernel
theorem dX10_cells_8 : decode cX10_cells 8 = .ok (.getfield 7, 3) := by decide +kernel
theorem dX10_cells_11 : decode cX10_cells 11 = .ok (.bipush 7, 2) := by decide +kernel
theorem dX10_cells_13 : decode cX10_cells 13 = .ok (.iaload, 1) := by decide +kernel
theorem dX10_cells_14 : decode cX10_cells 14 = .ok (.imul, 1) := by decide +kernel
theorem dX10_cells_15 : decode cX10_cells 15 = .ok (.ireturn, 1) := by decide +kernel
theorem dX10_ofCell_0 : decode cX10_ofCell 0 = .ok (.aload_n 0, 1) := by decide +kernel
theorem dX10_ofCell_1 : decode cX10_ofCell 1 = .ok (.getfield 7, 3) := by decide +kernel
theorem dX10_ofCell_4 : decode cX10_ofCell 4 = .ok (.sipush 205, 3) := by decide +kernel
theorem dX10_ofCell_7 : decode cX10_ofCell 7 = .ok (.iconst 3, 1) := by decide +kernel
theorem dX10_ofCell_8 : decode cX10_ofCell 8 = .ok (.iload_n 1, 1) := by decide +kernel
theorem dX10_ofCell_9 : decode cX10_ofCell 9 = .ok (.imul, 1) := by decide +kernel
theorem dX10_ofCell_10 : decode cX10_ofCell 10 = .ok (.iadd, 1) := by decide +kernel
theorem dX10_ofCell_11 : decode cX10_ofCell 11 = .ok (.iload_n 2, 1) := by decide +kernel
theorem dX10_ofCell_12 : decode cX10_ofCell 12 = .ok (.iadd, 1) := by decide +kernel
theorem dX10_ofCell_13 : decode cX10_ofCell 13 = .ok (.iaload, 1) := by decide +kernel
theorem dX10_ofCell_14 : decode cX10_ofCell 14 = .ok (.ireturn, 1) := by decide +kernel
theorem dX10_setsCell_0 : decode cX10_setsCell 0 = .ok (.aload_n 0, 1) := by decide +kernel
theorem dX10_setsCell_1 : decode cX10_setsCell 1 = .ok (.getfield 7, 3) := by decide +kernel
theorem dX10_setsCell_4 : decode cX10_setsCell 4 = .ok (.sipush 205, 3) := by decide +kernel
theorem dX10_setsCell_7 : decode cX10_setsCell 7 = .ok (.iconst 3, 1) := by decide +kernel
theorem dX10_setsCell_8 : decode cX10_setsCell 8 = .ok (.iload_n 1, 1) := by decide +kernel
theorem dX10_setsCell_9 : decode cX10_setsCell 9 = .ok (.imul, 1) := by decide +kernel
theorem dX10_setsCell_10 : decode cX10_setsCell 10 = .ok (.iadd, 1) := by decide +kernel
theorem dX10_setsCell_11 : decode cX10_setsCell 11 = .ok (.iload_n 2, 1) := by decide +kernel
theorem dX10_setsCell_12 : decode cX10_setsCell 12 = .ok (.iadd, 1) := by decide +kernel
theorem dX10_setsCell_13 : decode cX10_setsCell 13 = .ok (.iload_n 3, 1) := by decide +kernel
theorem dX10_setsCell_14 : decode cX10_setsCell 14 = .ok (.iastore, 1) := by decide +kernel
theorem dX10_setsCell_15 : decode cX10_setsCell 15 = .ok (.return_, 1) := by decide +kernel
theorem dX10_stationOf_0 : decode cX10_stationOf 0 = .ok (.iload_n 1, 1) := by decide +kernel
theorem dX10_stationOf_1 : decode cX10_stationOf 1 = .ok (.aload_n 0, 1) := by decide +kernel
theorem dX10_stationOf_2 : decode cX10_stationOf 2 = .ok (.getfield 7, 3) := by decide +kernel
theorem dX10_stationOf_5 : decode cX10_stationOf 5 = .ok (.bipush 6, 2) := by decide +kernel
theorem dX10_stationOf_7 : decode cX10_stationOf 7 = .ok (.iaload, 1) := by decide +kernel
theorem dX10_stationOf_8 : decode cX10_stationOf 8 = .ok (.irem, 1) := by decide +kernel
theorem dX10_stationOf_9 : decode cX10_stationOf 9 = .ok (.ireturn, 1) := by decide +kernel
theorem dX10_laneOf_0 : decode cX10_laneOf 0 = .ok (.iload_n 1, 1) := by decide +kernel
theorem dX10_laneOf_1 : decode cX10_laneOf 1 = .ok (.aload_n 0, 1) := by decide +kernel
theorem dX10_laneOf_2 : decode cX10_laneOf 2 = .ok (.getfield 7, 3) := by decide +kernel
theorem dX10_laneOf_5 : decode cX10_laneOf 5 = .ok (.bipush 6, 2) := by decide +kernel
theorem dX10_laneOf_7 : decode cX10_laneOf 7 = .ok (.iaload, 1) := by decide +kernel
theorem dX10_laneOf_8 : decode cX10_laneOf 8 = .ok (.idiv, 1) := by decide +kernel
theorem dX10_laneOf_9 : decode cX10_laneOf 9 = .ok (.ireturn, 1) := by decide +kernel
theorem dX10_cellOfCore_0 : decode cX10_cellOfCore 0 = .ok (.aload_n 0, 1) := by decide +kernel
theorem dX10_cellOfCore_1 : decode cX10_cellOfCore 1 = .ok (.getfield 7, 3) := by decide +kernel
theorem dX10_cellOfCore_4 : decode cX10_cellOfCore 4 = .ok (.bipush 25, 2) := by decide +kernel
theorem dX10_cellOfCore_6 : decode cX10_cellOfCore 6 = .ok (.bipush 10, 2) := by decide +kernel
theorem dX10_cellOfCore_8 : decode cX10_cellOfCore 8 = .ok (.iload_n 1, 1) := by decide +kernel
theorem dX10_cellOfCore_9 : decode cX10_cellOfCore 9 = .ok (.imul, 1) := by decide +kernel
theorem dX10_cellOfCore_10 : decode cX10_cellOfCore 10 = .ok (.iadd, 1) := by decide +kernel
theorem dX10_cellOfCore_11 : decode cX10_cellOfCore 11 = .ok (.iaload, 1) := by decide +kernel
theorem dX10_cellOfCore_12 : decode cX10_cellOfCore 12 = .ok (.ireturn, 1) := by decide +kernel
theorem dX10_distance_0 : decode cX10_distance 0 = .ok (.aload_n 0, 1) := by decide +kernel
theorem dX10_distance_1 : decode cX10_distance 1 = .ok (.iload_n 1, 1) := by decide +kernel
theorem dX10_distance_2 : decode cX10_distance 2 = .ok (.invokevirtual 68, 3) := by decide +kernel
theorem dX10_distance_5 : decode cX10_distance 5 = .ok (.aload_n 0, 1) := by decide +kernel
theorem dX10_distance_6 : decode cX10_distance 6 = .ok (.iload_n 2, 1) := by decide +kernel
theorem dX10_distance_7 : decode cX10_distance 7 = .ok (.invokevirtual 68, 3) := by decide +kernel
theorem dX10_distance_10 : decode cX10_distance 10 = .ok (.isub, 1) := by decide +kernel
theorem dX10_distance_11 : decode cX10_distance 11 = .ok (.invokestatic 72, 3) := by decide +kernel
theorem dX10_distance_14 : decode cX10_distance 14 = .ok (.iconst 3, 1) := by decide +kernel
theorem dX10_distance_15 : decode cX10_distance 15 = .ok (.aload_n 0, 1) := by decide +kernel
theorem dX10_distance_16 : decode cX10_distance 16 = .ok (.iload_n 1, 1) := by decide +kernel
theorem dX10_distance_17 : decode cX10_distance 17 = .ok (.invokevirtual 77, 3) := by decide +kernel
theorem dX10_distance_20 : decode cX10_distance 20 = .ok (.aload_n 0, 1) := by decide +kernel
theorem dX10_distance_21 : decode cX10_distance 21 = .ok (.iload_n 2, 1) := by decide +kernel
theorem dX10_distance_22 : decode cX10_distance 22 = .ok (.invokevirtual 77, 3) := by decide +kernel
theorem dX10_distance_25 : decode cX10_distance 25 = .ok (.isub, 1) := by decide +kernel
theorem dX10_distance_26 : decode cX10_distance 26 = .ok (.invokestatic 72, 3) := by decide +kernel
theorem dX10_distance_29 : decode cX10_distance 29 = .ok (.imul, 1) := by decide +kernel
theorem dX10_distance_30 : decode cX10_distance 30 = .ok (.iadd, 1) := by decide +kernel
theorem dX10_distance_31 : decode cX10_distance 31 = .ok (.ireturn, 1) := by decide +kernel
theorem dX10_nearestCore_0 : decode cX10_nearestCore 0 = .ok (.iconst (-1), 1) := by decide +kernel
theorem dX10_nearestCore_1 : decode cX10_nearestCore 1 = .ok (.istore_n 2, 1) := by decide +kernel
theorem dX10_nearestCore_2 : decode cX10_nearestCore 2 = .ok (.iconst 0, 1) := by decide +kernel
theorem dX10_nearestCore_3 : decode cX10_nearestCore 3 = .ok (.istore_n 3, 1) := by decide +kernel
theorem dX10_nearestCore_4 : decode cX10_nearestCore 4 = .ok (.iload_n 3, 1) := by decide +kernel
theorem dX10_nearestCore_5 : decode cX10_nearestCore 5 = .ok (.aload_n 0, 1) := by decide +kernel
theorem dX10_nearestCore_6 : decode cX10_nearestCore 6 = .ok (.getfield 7, 3) := by decide +kernel
theorem dX10_nearestCore_9 : decode cX10_nearestCore 9 = .ok (.bipush 8, 2) := by decide +kernel
theorem dX10_nearestCore_11 : decode cX10_nearestCore 11 = .ok (.iaload, 1) := by decide +kernel
theorem dX10_nearestCore_12 : decode cX10_nearestCore 12 = .ok (.if_icmp .ge 39, 3) := by decide +kernel
theorem dX10_nearestCore_15 : decode cX10_nearestCore 15 = .ok (.iload_n 2, 1) := by decide +kernel
theorem dX10_nearestCore_16 : decode cX10_nearestCore 16 = .ok (.iconst (-1), 1) := by decide +kernel
theorem dX10_nearestCore_17 : decode cX10_nearestCore 17 = .ok (.if_icmp .eq 26, 3) := by decide +kernel
theorem dX10_nearestCore_20 : decode cX10_nearestCore 20 = .ok (.aload_n 0, 1) := by decide +kernel
theorem dX10_nearestCore_21 : decode cX10_nearestCore 21 = .ok (.iload_n 1, 1) := by decide +kernel
theorem dX10_nearestCore_22 : decode cX10_nearestCore 22 = .ok (.aload_n 0, 1) := by decide +kernel
theorem dX10_nearestCore_23 : decode cX10_nearestCore 23 = .ok (.iload_n 3, 1) := by decide +kernel
theorem dX10_nearestCore_24 : decode cX10_nearestCore 24 = .ok (.invokevirtual 80, 3) := by decide +kernel
theorem dX10_nearestCore_27 : decode cX10_nearestCore 27 = .ok (.invokevirtual 83, 3) := by decide +kernel
theorem dX10_nearestCore_30 : decode cX10_nearestCore 30 = .ok (.aload_n 0, 1) := by decide +kernel
theorem dX10_nearestCore_31 : decode cX10_nearestCore 31 = .ok (.iload_n 1, 1) := by decide +kernel
theorem dX10_nearestCore_32 : decode cX10_nearestCore 32 = .ok (.aload_n 0, 1) := by decide +kernel
theorem dX10_nearestCore_33 : decode cX10_nearestCore 33 = .ok (.iload_n 2, 1) := by decide +kernel
theorem dX10_nearestCore_34 : decode cX10_nearestCore 34 = .ok (.invokevirtual 80, 3) := by decide +kernel
theorem dX10_nearestCore_37 : decode cX10_nearestCore 37 = .ok (.invokevirtual 83, 3) := by decide +kernel
theorem dX10_nearestCore_40 : decode cX10_nearestCore 40 = .ok (.if_icmp .ge 5, 3) := by decide +kernel
theorem dX10_nearestCore_43 : decode cX10_nearestCore 43 = .ok (.iload_n 3, 1) := by decide +kernel
theorem dX10_nearestCore_44 : decode cX10_nearestCore 44 = .ok (.istore_n 2, 1) := by decide +kernel
theorem dX10_nearestCore_45 : decode cX10_nearestCore 45 = .ok (.iinc 3 1, 3) := by decide +kernel
theorem dX10_nearestCore_48 : decode cX10_nearestCore 48 = .ok (.goto (-44), 3) := by decide +kernel
theorem dX10_nearestCore_51 : decode cX10_nearestCore 51 = .ok (.iload_n 2, 1) := by decide +kernel
theorem dX10_nearestCore_52 : decode cX10_nearestCore 52 = .ok (.ireturn, 1) := by decide +kernel
theorem dX10_coreOf_0 : decode cX10_coreOf 0 = .ok (.aload_n 0, 1) := by decide +kernel
theorem dX10_coreOf_1 : decode cX10_coreOf 1 = .ok (.iload_n 1, 1) := by decide +kernel
theorem dX10_coreOf_2 : decode cX10_coreOf 2 = .ok (.iconst 2, 1) := by decide +kernel
theorem dX10_coreOf_3 : decode cX10_coreOf 3 = .ok (.invokevirtual 87, 3) := by decide +kernel
theorem dX10_coreOf_6 : decode cX10_coreOf 6 = .ok (.iconst 1, 1) := by decide +kernel
theorem dX10_coreOf_7 : decode cX10_coreOf 7 = .ok (.if_icmp .ne 7, 3) := by decide +kernel
theorem dX10_coreOf_10 : decode cX10_coreOf 10 = .ok (.iconst (-1), 1) := by decide +kernel
theorem dX10_coreOf_11 : decode cX10_coreOf 11 = .ok (.goto 8, 3) := by decide +kernel
theorem dX10_coreOf_14 : decode cX10_coreOf 14 = .ok (.aload_n 0, 1) := by decide +kernel
theorem dX10_coreOf_15 : decode cX10_coreOf 15 = .ok (.iload_n 1, 1) := by decide +kernel
theorem dX10_coreOf_16 : decode cX10_coreOf 16 = .ok (.invokevirtual 90, 3) := by decide +kernel
theorem dX10_coreOf_19 : decode cX10_coreOf 19 = .ok (.ireturn, 1) := by decide +kernel
theorem dX10_coreAt_0 : decode cX10_coreAt 0 = .ok (.iconst 0, 1) := by decide +kernel
theorem dX10_coreAt_1 : decode cX10_coreAt 1 = .ok (.istore_n 2, 1) := by decide +kernel
theorem dX10_coreAt_2 : decode cX10_coreAt 2 = .ok (.iload_n 2, 1) := by decide +kernel
theorem dX10_coreAt_3 : decode cX10_coreAt 3 = .ok (.aload_n 0, 1) := by decide +kernel
theorem dX10_coreAt_4 : decode cX10_coreAt 4 = .ok (.getfield 7, 3) := by decide +kernel
theorem dX10_coreAt_7 : decode cX10_coreAt 7 = .ok (.bipush 8, 2) := by decide +kernel
theorem dX10_coreAt_9 : decode cX10_coreAt 9 = .ok (.iaload, 1) := by decide +kernel
theorem dX10_coreAt_10 : decode cX10_coreAt 10 = .ok (.if_icmp .ge 20, 3) := by decide +kernel
theorem dX10_coreAt_13 : decode cX10_coreAt 13 = .ok (.aload_n 0, 1) := by decide +kernel
theorem dX10_coreAt_14 : decode cX10_coreAt 14 = .ok (.iload_n 2, 1) := by decide +kernel
theorem dX10_coreAt_15 : decode cX10_coreAt 15 = .ok (.invokevirtual 80, 3) := by decide +kernel
theorem dX10_coreAt_18 : decode cX10_coreAt 18 = .ok (.iload_n 1, 1) := by decide +kernel
theorem dX10_coreAt_19 : decode cX10_coreAt 19 = .ok (.if_icmp .ne 5, 3) := by decide +kernel
theorem dX10_coreAt_22 : decode cX10_coreAt 22 = .ok (.iload_n 2, 1) := by decide +kernel
theorem dX10_coreAt_23 : decode cX10_coreAt 23 = .ok (.ireturn, 1) := by decide +kernel
theorem dX10_coreAt_24 : decode cX10_coreAt 24 = .ok (.iinc 2 1, 3) := by decide +kernel
theorem dX10_coreAt_27 : decode cX10_coreAt 27 = .ok (.goto (-25), 3) := by decide +kernel
theorem dX10_coreAt_30 : decode cX10_coreAt 30 = .ok (.iconst (-1), 1) := by decide +kernel
theorem dX10_coreAt_31 : decode cX10_coreAt 31 = .ok (.ireturn, 1) := by decide +kernel
theorem dX10_layersOf_0 : decode cX10_layersOf 0 = .ok (.aload_n 0, 1) := by decide +kernel
theorem dX10_layersOf_1 : decode cX10_layersOf 1 = .ok (.iload_n 1, 1) := by decide +kernel
theorem dX10_layersOf_2 : decode cX10_layersOf 2 = .ok (.invokevirtual 93, 3) := by decide +kernel
theorem dX10_layersOf_5 : decode cX10_layersOf 5 = .ok (.istore_n 2, 1) := by decide +kernel
theorem dX10_layersOf_6 : decode cX10_layersOf 6 = .ok (.iload_n 2, 1) := by decide +kernel
theorem dX10_layersOf_7 : decode cX10_layersOf 7 = .ok (.iconst (-1), 1) := by decide +kernel
theorem dX10_layersOf_8 : decode cX10_layersOf 8 = .ok (.if_icmp .ne 8, 3) := by decide +kernel
theorem dX10_layersOf_11 : decode cX10_layersOf 11 = .ok (.bipush 16, 2) := by decide +kernel
theorem dX10_layersOf_13 : decode cX10_layersOf 13 = .ok (.goto 12, 3) := by decide +kernel
theorem dX10_layersOf_16 : decode cX10_layersOf 16 = .ok (.bipush 25, 2) := by decide +kernel
theorem dX10_layersOf_18 : decode cX10_layersOf 18 = .ok (.bipush 10, 2) := by decide +kernel
theorem dX10_layersOf_20 : decode cX10_layersOf 20 = .ok (.iload_n 2, 1) := by decide +kernel
theorem dX10_layersOf_21 : decode cX10_layersOf 21 = .ok (.imul, 1) := by decide +kernel
theorem dX10_layersOf_22 : decode cX10_layersOf 22 = .ok (.iadd, 1) := by decide +kernel
theorem dX10_layersOf_23 : decode cX10_layersOf 23 = .ok (.iconst 1, 1) := by decide +kernel
theorem dX10_layersOf_24 : decode cX10_layersOf 24 = .ok (.iadd, 1) := by decide +kernel
theorem dX10_layersOf_25 : decode cX10_layersOf 25 = .ok (.ireturn, 1) := by decide +kernel
theorem dX10_factorOf_0 : decode cX10_factorOf 0 = .ok (.iload_n 0, 1) := by decide +kernel
theorem dX10_factorOf_1 : decode cX10_factorOf 1 = .ok (.ifCond .ne 8, 3) := by decide +kernel
theorem dX10_factorOf_4 : decode cX10_factorOf 4 = .ok (.bipush 44, 2) := by decide +kernel
theorem dX10_factorOf_6 : decode cX10_factorOf 6 = .ok (.goto 25, 3) := by decide +kernel
theorem dX10_factorOf_9 : decode cX10_factorOf 9 = .ok (.iload_n 0, 1) := by decide +kernel
theorem dX10_factorOf_10 : decode cX10_factorOf 10 = .ok (.iconst 1, 1) := by decide +kernel
theorem dX10_factorOf_11 : decode cX10_factorOf 11 = .ok (.if_icmp .ne 8, 3) := by decide +kernel
theorem dX10_factorOf_14 : decode cX10_factorOf 14 = .ok (.bipush 30, 2) := by decide +kernel
theorem dX10_factorOf_16 : decode cX10_factorOf 16 = .ok (.goto 15, 3) := by decide +kernel
theorem dX10_factorOf_19 : decode cX10_factorOf 19 = .ok (.iload_n 0, 1) := by decide +kernel
theorem dX10_factorOf_20 : decode cX10_factorOf 20 = .ok (.iconst 2, 1) := by decide +kernel
theorem dX10_factorOf_21 : decode cX10_factorOf 21 = .ok (.if_icmp .ne 8, 3) := by decide +kernel
theorem dX10_factorOf_24 : decode cX10_factorOf 24 = .ok (.bipush 14, 2) := by decide +kernel
theorem dX10_factorOf_26 : decode cX10_factorOf 26 = .ok (.goto 5, 3) := by decide +kernel
theorem dX10_factorOf_29 : decode cX10_factorOf 29 = .ok (.bipush 8, 2) := by decide +kernel
theorem dX10_factorOf_31 : decode cX10_factorOf 31 = .ok (.ireturn, 1) := by decide +kernel
theorem dX10_strengthOf_0 : decode cX10_strengthOf 0 = .ok (.aload_n 0, 1) := by decide +kernel
theorem dX10_strengthOf_1 : decode cX10_strengthOf 1 = .ok (.iload_n 1, 1) := by decide +kernel
theorem dX10_strengthOf_2 : decode cX10_strengthOf 2 = .ok (.invokevirtual 96, 3) := by decide +kernel
theorem dX10_strengthOf_5 : decode cX10_strengthOf 5 = .ok (.istore_n 2, 1) := by decide +kernel
theorem dX10_strengthOf_6 : decode cX10_strengthOf 6 = .ok (.aload_n 0, 1) := by decide +kernel
theorem dX10_strengthOf_7 : decode cX10_strengthOf 7 = .ok (.iload_n 1, 1) := by decide +kernel
theorem dX10_strengthOf_8 : decode cX10_strengthOf 8 = .ok (.iconst 1, 1) := by decide +kernel
theorem dX10_strengthOf_9 : decode cX10_strengthOf 9 = .ok (.invokevirtual 87, 3) := by decide +kernel
theorem dX10_strengthOf_12 : decode cX10_strengthOf 12 = .ok (.bipush 44, 2) := by decide +kernel
theorem dX10_strengthOf_14 : decode cX10_strengthOf 14 = .ok (.imul, 1) := by decide +kernel
theorem dX10_strengthOf_15 : decode cX10_strengthOf 15 = .ok (.istore_n 3, 1) := by decide +kernel
theorem dX10_strengthOf_16 : decode cX10_strengthOf 16 = .ok (.iconst 0, 1) := by decide +kernel
theorem dX10_strengthOf_17 : decode cX10_strengthOf 17 = .ok (.istore 4, 2) := by decide +kernel
theorem dX10_strengthOf_19 : decode cX10_strengthOf 19 = .ok (.iload 4, 2) := by decide +kernel
theorem dX10_strengthOf_21 : decode cX10_strengthOf 21 = .ok (.aload_n 0, 1) := by decide +kernel
theorem dX10_strengthOf_22 : decode cX10_strengthOf 22 = .ok (.getfield 7, 3) := by decide +kernel
theorem dX10_strengthOf_25 : decode cX10_strengthOf 25 = .ok (.iload_n 2, 1) := by decide +kernel
theorem dX10_strengthOf_26 : decode cX10_strengthOf 26 = .ok (.iaload, 1) := by decide +kernel
theorem dX10_strengthOf_27 : decode cX10_strengthOf 27 = .ok (.if_icmp .ge 42, 3) := by decide +kernel
theorem dX10_strengthOf_30 : decode cX10_strengthOf 30 = .ok (.iload_n 3, 1) := by decide +kernel
theorem dX10_strengthOf_31 : decode cX10_strengthOf 31 = .ok (.aload_n 0, 1) := by decide +kernel
theorem dX10_strengthOf_32 : decode cX10_strengthOf 32 = .ok (.getfield 7, 3) := by decide +kernel
theorem dX10_strengthOf_35 : decode cX10_strengthOf 35 = .ok (.iload_n 2, 1) := by decide +kernel
theorem dX10_strengthOf_36 : decode cX10_strengthOf 36 = .ok (.iconst 1, 1) := by decide +kernel
theorem dX10_strengthOf_37 : decode cX10_strengthOf 37 = .ok (.iadd, 1) := by decide +kernel
theorem dX10_strengthOf_38 : decode cX10_strengthOf 38 = .ok (.iconst 2, 1) := by decide +kernel
theorem dX10_strengthOf_39 : decode cX10_strengthOf 39 = .ok (.iload 4, 2) := by decide +kernel
theorem dX10_strengthOf_41 : decode cX10_strengthOf 41 = .ok (.imul, 1) := by decide +kernel
theorem dX10_strengthOf_42 : decode cX10_strengthOf 42 = .ok (.iadd, 1) := by decide +kernel
theorem dX10_strengthOf_43 : decode cX10_strengthOf 43 = .ok (.iaload, 1) := by decide +kernel
theorem dX10_strengthOf_44 : decode cX10_strengthOf 44 = .ok (.invokestatic 99, 3) := by decide +kernel
theorem dX10_strengthOf_47 : decode cX10_strengthOf 47 = .ok (.aload_n 0, 1) := by decide +kernel
theorem dX10_strengthOf_48 : decode cX10_strengthOf 48 = .ok (.getfield 7, 3) := by decide +kernel
theorem dX10_strengthOf_51 : decode cX10_strengthOf 51 = .ok (.iload_n 2, 1) := by decide +kernel
theorem dX10_strengthOf_52 : decode cX10_strengthOf 52 = .ok (.iconst 2, 1) := by decide +kernel
theorem dX10_strengthOf_53 : decode cX10_strengthOf 53 = .ok (.iadd, 1) := by decide +kernel
theorem dX10_strengthOf_54 : decode cX10_strengthOf 54 = .ok (.iconst 2, 1) := by decide +kernel
theorem dX10_strengthOf_55 : decode cX10_strengthOf 55 = .ok (.iload 4, 2) := by decide +kernel
theorem dX10_strengthOf_57 : decode cX10_strengthOf 57 = .ok (.imul, 1) := by decide +kernel
theorem dX10_strengthOf_58 : decode cX10_strengthOf 58 = .ok (.iadd, 1) := by decide +kernel
theorem dX10_strengthOf_59 : decode cX10_strengthOf 59 = .ok (.iaload, 1) := by decide +kernel
theorem dX10_strengthOf_60 : decode cX10_strengthOf 60 = .ok (.imul, 1) := by decide +kernel
theorem dX10_strengthOf_61 : decode cX10_strengthOf 61 = .ok (.iadd, 1) := by decide +kernel
theorem dX10_strengthOf_62 : decode cX10_strengthOf 62 = .ok (.istore_n 3, 1) := by decide +kernel
theorem dX10_strengthOf_63 : decode cX10_strengthOf 63 = .ok (.iinc 4 1, 3) := by decide +kernel
theorem dX10_strengthOf_66 : decode cX10_strengthOf 66 = .ok (.goto (-47), 3) := by decide +kernel
theorem dX10_strengthOf_69 : decode cX10_strengthOf 69 = .ok (.iconst 1, 1) := by decide +kernel
theorem dX10_strengthOf_70 : decode cX10_strengthOf 70 = .ok (.iload_n 3, 1) := by decide +kernel
theorem dX10_strengthOf_71 : decode cX10_strengthOf 71 = .ok (.bipush 100, 2) := by decide +kernel
theorem dX10_strengthOf_73 : decode cX10_strengthOf 73 = .ok (.idiv, 1) := by decide +kernel
theorem dX10_strengthOf_74 : decode cX10_strengthOf 74 = .ok (.invokestatic 102, 3) := by decide +kernel
theorem dX10_strengthOf_77 : decode cX10_strengthOf 77 = .ok (.ireturn, 1) := by decide +kernel
theorem dX10_capacityOf_0 : decode cX10_capacityOf 0 = .ok (.aload_n 0, 1) := by decide +kernel
theorem dX10_capacityOf_1 : decode cX10_capacityOf 1 = .ok (.iload_n 1, 1) := by decide +kernel
theorem dX10_capacityOf_2 : decode cX10_capacityOf 2 = .ok (.invokevirtual 105, 3) := by decide +kernel
theorem dX10_capacityOf_5 : decode cX10_capacityOf 5 = .ok (.i2l, 1) := by decide +kernel
theorem dX10_capacityOf_6 : decode cX10_capacityOf 6 = .ok (.lstore_n 2, 1) := by decide +kernel
theorem dX10_capacityOf_7 : decode cX10_capacityOf 7 = .ok (.lload_n 2, 1) := by decide +kernel
theorem dX10_capacityOf_8 : decode cX10_capacityOf 8 = .ok (.lload_n 2, 1) := by decide +kernel
theorem dX10_capacityOf_9 : decode cX10_capacityOf 9 = .ok (.lmul, 1) := by decide +kernel
theorem dX10_capacityOf_10 : decode cX10_capacityOf 10 = .ok (.aload_n 0, 1) := by decide +kernel
theorem dX10_capacityOf_11 : decode cX10_capacityOf 11 = .ok (.getfield 7, 3) := by decide +kernel
theorem dX10_capacityOf_14 : decode cX10_capacityOf 14 = .ok (.iconst 2, 1) := by decide +kernel
theorem dX10_capacityOf_15 : decode cX10_capacityOf 15 = .ok (.iaload, 1) := by decide +kernel
theorem dX10_capacityOf_16 : decode cX10_capacityOf 16 = .ok (.i2l, 1) := by decide +kernel
theorem dX10_capacityOf_17 : decode cX10_capacityOf 17 = .ok (.lmul, 1) := by decide +kernel
theorem dX10_capacityOf_18 : decode cX10_capacityOf 18 = .ok (.lreturn, 1) := by decide +kernel
theorem dX10_ofLoad_0 : decode cX10_ofLoad 0 = .ok (.aload_n 0, 1) := by decide +kernel
theorem dX10_ofLoad_1 : decode cX10_ofLoad 1 = .ok (.getfield 7, 3) := by decide +kernel
theorem dX10_ofLoad_4 : decode cX10_ofLoad 4 = .ok (.sipush 145, 3) := by decide +kernel
theorem dX10_ofLoad_7 : decode cX10_ofLoad 7 = .ok (.bipush 6, 2) := by decide +kernel
theorem dX10_ofLoad_9 : decode cX10_ofLoad 9 = .ok (.iload_n 1, 1) := by decide +kernel
theorem dX10_ofLoad_10 : decode cX10_ofLoad 10 = .ok (.imul, 1) := by decide +kernel
theorem dX10_ofLoad_11 : decode cX10_ofLoad 11 = .ok (.iadd, 1) := by decide +kernel
theorem dX10_ofLoad_12 : decode cX10_ofLoad 12 = .ok (.iload_n 2, 1) := by decide +kernel
theorem dX10_ofLoad_13 : decode cX10_ofLoad 13 = .ok (.iadd, 1) := by decide +kernel
theorem dX10_ofLoad_14 : decode cX10_ofLoad 14 = .ok (.iaload, 1) := by decide +kernel
theorem dX10_ofLoad_15 : decode cX10_ofLoad 15 = .ok (.ireturn, 1) := by decide +kernel
theorem dX10_isClosed_0 : decode cX10_isClosed 0 = .ok (.aload_n 0, 1) := by decide +kernel
theorem dX10_isClosed_1 : decode cX10_isClosed 1 = .ok (.getfield 7, 3) := by decide +kernel
theorem dX10_isClosed_4 : decode cX10_isClosed 4 = .ok (.bipush 15, 2) := by decide +kernel
theorem dX10_isClosed_6 : decode cX10_isClosed 6 = .ok (.iaload, 1) := by decide +kernel
theorem dX10_isClosed_7 : decode cX10_isClosed 7 = .ok (.iload_n 1, 1) := by decide +kernel
theorem dX10_isClosed_8 : decode cX10_isClosed 8 = .ok (.ishr, 1) := by decide +kernel
theorem dX10_isClosed_9 : decode cX10_isClosed 9 = .ok (.iconst 1, 1) := by decide +kernel
theorem dX10_isClosed_10 : decode cX10_isClosed 10 = .ok (.iand, 1) := by decide +kernel
theorem dX10_isClosed_11 : decode cX10_isClosed 11 = .ok (.iconst 1, 1) := by decide +kernel
theorem dX10_isClosed_12 : decode cX10_isClosed 12 = .ok (.if_icmp .ne 7, 3) := by decide +kernel
theorem dX10_isClosed_15 : decode cX10_isClosed 15 = .ok (.iconst 1, 1) := by decide +kernel
theorem dX10_isClosed_16 : decode cX10_isClosed 16 = .ok (.goto 4, 3) := by decide +kernel
theorem dX10_isClosed_19 : decode cX10_isClosed 19 = .ok (.iconst 0, 1) := by decide +kernel
theorem dX10_isClosed_20 : decode cX10_isClosed 20 = .ok (.ireturn, 1) := by decide +kernel
theorem dX10_laneNow_0 : decode cX10_laneNow 0 = .ok (.aload_n 0, 1) := by decide +kernel
theorem dX10_laneNow_1 : decode cX10_laneNow 1 = .ok (.iload_n 1, 1) := by decide +kernel
theorem dX10_laneNow_2 : decode cX10_laneNow 2 = .ok (.iconst 0, 1) := by decide +kernel
theorem dX10_laneNow_3 : decode cX10_laneNow 3 = .ok (.invokevirtual 108, 3) := by decide +kernel
theorem dX10_laneNow_6 : decode cX10_laneNow 6 = .ok (.istore_n 2, 1) := by decide +kernel
theorem dX10_laneNow_7 : decode cX10_laneNow 7 = .ok (.iconst 0, 1) := by decide +kernel
theorem dX10_laneNow_8 : decode cX10_laneNow 8 = .ok (.istore_n 3, 1) := by decide +kernel
theorem dX10_laneNow_9 : decode cX10_laneNow 9 = .ok (.iload_n 3, 1) := by decide +kernel
theorem dX10_laneNow_10 : decode cX10_laneNow 10 = .ok (.iconst 4, 1) := by decide +kernel
theorem dX10_laneNow_11 : decode cX10_laneNow 11 = .ok (.if_icmp .ge 56, 3) := by decide +kernel
theorem dX10_laneNow_14 : decode cX10_laneNow 14 = .ok (.iload_n 2, 1) := by decide +kernel
theorem dX10_laneNow_15 : decode cX10_laneNow 15 = .ok (.iload_n 3, 1) := by decide +kernel
theorem dX10_laneNow_16 : decode cX10_laneNow 16 = .ok (.isub, 1) := by decide +kernel
theorem dX10_laneNow_17 : decode cX10_laneNow 17 = .ok (.ifCond .lt 17, 3) := by decide +kernel
theorem dX10_laneNow_20 : decode cX10_laneNow 20 = .ok (.aload_n 0, 1) := by decide +kernel
theorem dX10_laneNow_21 : decode cX10_laneNow 21 = .ok (.iload_n 2, 1) := by decide +kernel
theorem dX10_laneNow_22 : decode cX10_laneNow 22 = .ok (.iload_n 3, 1) := by decide +kernel
theorem dX10_laneNow_23 : decode cX10_laneNow 23 = .ok (.isub, 1) := by decide +kernel
theorem dX10_laneNow_24 : decode cX10_laneNow 24 = .ok (.invokevirtual 111, 3) := by decide +kernel
theorem dX10_laneNow_27 : decode cX10_laneNow 27 = .ok (.ifCond .ne 7, 3) := by decide +kernel
theorem dX10_laneNow_30 : decode cX10_laneNow 30 = .ok (.iload_n 2, 1) := by decide +kernel
theorem dX10_laneNow_31 : decode cX10_laneNow 31 = .ok (.iload_n 3, 1) := by decide +kernel
theorem dX10_laneNow_32 : decode cX10_laneNow 32 = .ok (.isub, 1) := by decide +kernel
theorem dX10_laneNow_33 : decode cX10_laneNow 33 = .ok (.ireturn, 1) := by decide +kernel
theorem dX10_laneNow_34 : decode cX10_laneNow 34 = .ok (.iload_n 2, 1) := by decide +kernel
theorem dX10_laneNow_35 : decode cX10_laneNow 35 = .ok (.iload_n 3, 1) := by decide +kernel
theorem dX10_laneNow_36 : decode cX10_laneNow 36 = .ok (.iadd, 1) := by decide +kernel
theorem dX10_laneNow_37 : decode cX10_laneNow 37 = .ok (.aload_n 0, 1) := by decide +kernel
theorem dX10_laneNow_38 : decode cX10_laneNow 38 = .ok (.getfield 7, 3) := by decide +kernel
theorem dX10_laneNow_41 : decode cX10_laneNow 41 = .ok (.bipush 7, 2) := by decide +kernel
theorem dX10_laneNow_43 : decode cX10_laneNow 43 = .ok (.iaload, 1) := by decide +kernel
theorem dX10_laneNow_44 : decode cX10_laneNow 44 = .ok (.if_icmp .ge 17, 3) := by decide +kernel
theorem dX10_laneNow_47 : decode cX10_laneNow 47 = .ok (.aload_n 0, 1) := by decide +kernel
theorem dX10_laneNow_48 : decode cX10_laneNow 48 = .ok (.iload_n 2, 1) := by decide +kernel
theorem dX10_laneNow_49 : decode cX10_laneNow 49 = .ok (.iload_n 3, 1) := by decide +kernel
theorem dX10_laneNow_50 : decode cX10_laneNow 50 = .ok (.iadd, 1) := by decide +kernel
theorem dX10_laneNow_51 : decode cX10_laneNow 51 = .ok (.invokevirtual 111, 3) := by decide +kernel
theorem dX10_laneNow_54 : decode cX10_laneNow 54 = .ok (.ifCond .ne 7, 3) := by decide +kernel
theorem dX10_laneNow_57 : decode cX10_laneNow 57 = .ok (.iload_n 2, 1) := by decide +kernel
theorem dX10_laneNow_58 : decode cX10_laneNow 58 = .ok (.iload_n 3, 1) := by decide +kernel
theorem dX10_laneNow_59 : decode cX10_laneNow 59 = .ok (.iadd, 1) := by decide +kernel
theorem dX10_laneNow_60 : decode cX10_laneNow 60 = .ok (.ireturn, 1) := by decide +kernel
theorem dX10_laneNow_61 : decode cX10_laneNow 61 = .ok (.iinc 3 1, 3) := by decide +kernel
theorem dX10_laneNow_64 : decode cX10_laneNow 64 = .ok (.goto (-55), 3) := by decide +kernel
theorem dX10_laneNow_67 : decode cX10_laneNow 67 = .ok (.iconst (-1), 1) := by decide +kernel
theorem dX10_laneNow_68 : decode cX10_laneNow 68 = .ok (.ireturn, 1) := by decide +kernel
theorem dX10_laysCounts_0 : decode cX10_laysCounts 0 = .ok (.iconst 0, 1) := by decide +kernel
theorem dX10_laysCounts_1 : decode cX10_laysCounts 1 = .ok (.istore_n 1, 1) := by decide +kernel
theorem dX10_laysCounts_2 : decode cX10_laysCounts 2 = .ok (.iload_n 1, 1) := by decide +kernel
theorem dX10_laysCounts_3 : decode cX10_laysCounts 3 = .ok (.aload_n 0, 1) := by decide +kernel
theorem dX10_laysCounts_4 : decode cX10_laysCounts 4 = .ok (.getfield 7, 3) := by decide +kernel
theorem dX10_laysCounts_7 : decode cX10_laysCounts 7 = .ok (.bipush 9, 2) := by decide +kernel
theorem dX10_laysCounts_9 : decode cX10_laysCounts 9 = .ok (.iaload, 1) := by decide +kernel
theorem dX10_laysCounts_10 : decode cX10_laysCounts 10 = .ok (.if_icmp .ge 21, 3) := by decide +kernel
theorem dX10_laysCounts_13 : decode cX10_laysCounts 13 = .ok (.aload_n 0, 1) := by decide +kernel
theorem dX10_laysCounts_14 : decode cX10_laysCounts 14 = .ok (.getfield 32, 3) := by decide +kernel
theorem dX10_laysCounts_17 : decode cX10_laysCounts 17 = .ok (.iload_n 1, 1) := by decide +kernel
theorem dX10_laysCounts_18 : decode cX10_laysCounts 18 = .ok (.aload_n 0, 1) := by decide +kernel
theorem dX10_laysCounts_19 : decode cX10_laysCounts 19 = .ok (.iload_n 1, 1) := by decide +kernel
theorem dX10_laysCounts_20 : decode cX10_laysCounts 20 = .ok (.iconst 4, 1) := by decide +kernel
theorem dX10_laysCounts_21 : decode cX10_laysCounts 21 = .ok (.invokevirtual 108, 3) := by decide +kernel
theorem dX10_laysCounts_24 : decode cX10_laysCounts 24 = .ok (.iastore, 1) := by decide +kernel
theorem dX10_laysCounts_25 : decode cX10_laysCounts 25 = .ok (.iinc 1 1, 3) := by decide +kernel
theorem dX10_laysCounts_28 : decode cX10_laysCounts 28 = .ok (.goto (-26), 3) := by decide +kernel
theorem dX10_laysCounts_31 : decode cX10_laysCounts 31 = .ok (.return_, 1) := by decide +kernel
theorem dX10_grown_0 : decode cX10_grown 0 = .ok (.ldc2_w 115, 3) := by decide +kernel
theorem dX10_grown_3 : decode cX10_grown 3 = .ok (.iload_n 0, 1) := by decide +kernel
theorem dX10_grown_4 : decode cX10_grown 4 = .ok (.i2l, 1) := by decide +kernel
theorem dX10_grown_5 : decode cX10_grown 5 = .ok (.iload_n 0, 1) := by decide +kernel
theorem dX10_grown_6 : decode cX10_grown 6 = .ok (.i2l, 1) := by decide +kernel
theorem dX10_grown_7 : decode cX10_grown 7 = .ok (.iload_n 1, 1) := by decide +kernel
theorem dX10_grown_8 : decode cX10_grown 8 = .ok (.i2l, 1) := by decide +kernel
theorem dX10_grown_9 : decode cX10_grown 9 = .ok (.lmul, 1) := by decide +kernel
theorem dX10_grown_10 : decode cX10_grown 10 = .ok (.ldc2_w 117, 3) := by decide +kernel
theorem dX10_grown_13 : decode cX10_grown 13 = .ok (.ldiv, 1) := by decide +kernel
theorem dX10_grown_14 : decode cX10_grown 14 = .ok (.ladd, 1) := by decide +kernel
theorem dX10_grown_15 : decode cX10_grown 15 = .ok (.invokestatic 119, 3) := by decide +kernel
theorem dX10_grown_18 : decode cX10_grown 18 = .ok (.l2i, 1) := by decide +kernel
theorem dX10_grown_19 : decode cX10_grown 19 = .ok (.ireturn, 1) := by decide +kernel
theorem dX10_growCounts_0 : decode cX10_growCounts 0 = .ok (.iconst 0, 1) := by decide +kernel
theorem dX10_growCounts_1 : decode cX10_growCounts 1 = .ok (.istore_n 1, 1) := by decide +kernel
theorem dX10_growCounts_2 : decode cX10_growCounts 2 = .ok (.iload_n 1, 1) := by decide +kernel
theorem dX10_growCounts_3 : decode cX10_growCounts 3 = .ok (.aload_n 0, 1) := by decide +kernel
theorem dX10_growCounts_4 : decode cX10_growCounts 4 = .ok (.getfield 7, 3) := by decide +kernel
theorem dX10_growCounts_7 : decode cX10_growCounts 7 = .ok (.bipush 9, 2) := by decide +kernel
theorem dX10_growCounts_9 : decode cX10_growCounts 9 = .ok (.iaload, 1) := by decide +kernel
theorem dX10_growCounts_10 : decode cX10_growCounts 10 = .ok (.if_icmp .ge 30, 3) := by decide +kernel
theorem dX10_growCounts_13 : decode cX10_growCounts 13 = .ok (.aload_n 0, 1) := by decide +kernel
theorem dX10_growCounts_14 : decode cX10_growCounts 14 = .ok (.getfield 32, 3) := by decide +kernel
theorem dX10_growCounts_17 : decode cX10_growCounts 17 = .ok (.iload_n 1, 1) := by decide +kernel
theorem dX10_growCounts_18 : decode cX10_growCounts 18 = .ok (.aload_n 0, 1) := by decide +kernel
theorem dX10_growCounts_19 : decode cX10_growCounts 19 = .ok (.getfield 32, 3) := by decide +kernel
theorem dX10_growCounts_22 : decode cX10_growCounts 22 = .ok (.iload_n 1, 1) := by decide +kernel
theorem dX10_growCounts_23 : decode cX10_growCounts 23 = .ok (.iaload, 1) := by decide +kernel
theorem dX10_growCounts_24 : decode cX10_growCounts 24 = .ok (.aload_n 0, 1) := by decide +kernel
theorem dX10_growCounts_25 : decode cX10_growCounts 25 = .ok (.iload_n 1, 1) := by decide +kernel
theorem dX10_growCounts_26 : decode cX10_growCounts 26 = .ok (.iconst 5, 1) := by decide +kernel
theorem dX10_growCounts_27 : decode cX10_growCounts 27 = .ok (.invokevirtual 108, 3) := by decide +kernel
theorem dX10_growCounts_30 : decode cX10_growCounts 30 = .ok (.invokestatic 123, 3) := by decide +kernel
theorem dX10_growCounts_33 : decode cX10_growCounts 33 = .ok (.iastore, 1) := by decide +kernel
theorem dX10_growCounts_34 : decode cX10_growCounts 34 = .ok (.iinc 1 1, 3) := by decide +kernel
theorem dX10_growCounts_37 : decode cX10_growCounts 37 = .ok (.goto (-35), 3) := by decide +kernel
theorem dX10_growCounts_40 : decode cX10_growCounts 40 = .ok (.return_, 1) := by decide +kernel
theorem dX10_shareOf_0 : decode cX10_shareOf 0 = .ok (.aload_n 0, 1) := by decide +kernel
theorem dX10_shareOf_1 : decode cX10_shareOf 1 = .ok (.iload_n 1, 1) := by decide +kernel
theorem dX10_shareOf_2 : decode cX10_shareOf 2 = .ok (.invokevirtual 126, 3) := by decide +kernel
theorem dX10_shareOf_5 : decode cX10_shareOf 5 = .ok (.aload_n 0, 1) := by decide +kernel
theorem dX10_shareOf_6 : decode cX10_shareOf 6 = .ok (.iload_n 2, 1) := by decide +kernel
theorem dX10_shareOf_7 : decode cX10_shareOf 7 = .ok (.invokevirtual 77, 3) := by decide +kernel
theorem dX10_shareOf_10 : decode cX10_shareOf 10 = .ok (.if_icmp .ne 29, 3) := by decide +kernel
theorem dX10_shareOf_13 : decode cX10_shareOf 13 = .ok (.aload_n 0, 1) := by decide +kernel
theorem dX10_shareOf_14 : decode cX10_shareOf 14 = .ok (.iload_n 2, 1) := by decide +kernel
theorem dX10_shareOf_15 : decode cX10_shareOf 15 = .ok (.invokevirtual 68, 3) := by decide +kernel
theorem dX10_shareOf_18 : decode cX10_shareOf 18 = .ok (.i2l, 1) := by decide +kernel
theorem dX10_shareOf_19 : decode cX10_shareOf 19 = .ok (.aload_n 0, 1) := by decide +kernel
theorem dX10_shareOf_20 : decode cX10_shareOf 20 = .ok (.iload_n 1, 1) := by decide +kernel
theorem dX10_shareOf_21 : decode cX10_shareOf 21 = .ok (.iconst 1, 1) := by decide +kernel
theorem dX10_shareOf_22 : decode cX10_shareOf 22 = .ok (.invokevirtual 108, 3) := by decide +kernel
theorem dX10_shareOf_25 : decode cX10_shareOf 25 = .ok (.i2l, 1) := by decide +kernel
theorem dX10_shareOf_26 : decode cX10_shareOf 26 = .ok (.aload_n 0, 1) := by decide +kernel
theorem dX10_shareOf_27 : decode cX10_shareOf 27 = .ok (.iload_n 1, 1) := by decide +kernel
theorem dX10_shareOf_28 : decode cX10_shareOf 28 = .ok (.iconst 2, 1) := by decide +kernel
theorem dX10_shareOf_29 : decode cX10_shareOf 29 = .ok (.invokevirtual 108, 3) := by decide +kernel
theorem dX10_shareOf_32 : decode cX10_shareOf 32 = .ok (.i2l, 1) := by decide +kernel
theorem dX10_shareOf_33 : decode cX10_shareOf 33 = .ok (.invokestatic 129, 3) := by decide +kernel
theorem dX10_shareOf_36 : decode cX10_shareOf 36 = .ok (.ifCond .ne 5, 3) := by decide +kernel
theorem dX10_shareOf_39 : decode cX10_shareOf 39 = .ok (.lconst 0, 1) := by decide +kernel
theorem dX10_shareOf_40 : decode cX10_shareOf 40 = .ok (.lreturn, 1) := by decide +kernel
theorem dX10_shareOf_41 : decode cX10_shareOf 41 = .ok (.aload_n 0, 1) := by decide +kernel
theorem dX10_shareOf_42 : decode cX10_shareOf 42 = .ok (.iload_n 1, 1) := by decide +kernel
theorem dX10_shareOf_43 : decode cX10_shareOf 43 = .ok (.iconst 3, 1) := by decide +kernel
theorem dX10_shareOf_44 : decode cX10_shareOf 44 = .ok (.invokevirtual 108, 3) := by decide +kernel
theorem dX10_shareOf_47 : decode cX10_shareOf 47 = .ok (.aload_n 0, 1) := by decide +kernel
theorem dX10_shareOf_48 : decode cX10_shareOf 48 = .ok (.iload_n 1, 1) := by decide +kernel
theorem dX10_shareOf_49 : decode cX10_shareOf 49 = .ok (.iconst 3, 1) := by decide +kernel
theorem dX10_shareOf_50 : decode cX10_shareOf 50 = .ok (.invokevirtual 108, 3) := by decide +kernel
theorem dX10_shareOf_53 : decode cX10_shareOf 53 = .ok (.imul, 1) := by decide +kernel
theorem dX10_shareOf_54 : decode cX10_shareOf 54 = .ok (.i2l, 1) := by decide +kernel
theorem dX10_shareOf_55 : decode cX10_shareOf 55 = .ok (.lstore_n 3, 1) := by decide +kernel
theorem dX10_shareOf_56 : decode cX10_shareOf 56 = .ok (.aload_n 0, 1) := by decide +kernel
theorem dX10_shareOf_57 : decode cX10_shareOf 57 = .ok (.getfield 32, 3) := by decide +kernel
theorem dX10_shareOf_60 : decode cX10_shareOf 60 = .ok (.iload_n 1, 1) := by decide +kernel
theorem dX10_shareOf_61 : decode cX10_shareOf 61 = .ok (.iaload, 1) := by decide +kernel
theorem dX10_shareOf_62 : decode cX10_shareOf 62 = .ok (.i2l, 1) := by decide +kernel
theorem dX10_shareOf_63 : decode cX10_shareOf 63 = .ok (.lload_n 3, 1) := by decide +kernel
theorem dX10_shareOf_64 : decode cX10_shareOf 64 = .ok (.lmul, 1) := by decide +kernel
theorem dX10_shareOf_65 : decode cX10_shareOf 65 = .ok (.lload_n 3, 1) := by decide +kernel
theorem dX10_shareOf_66 : decode cX10_shareOf 66 = .ok (.lmul, 1) := by decide +kernel
theorem dX10_shareOf_67 : decode cX10_shareOf 67 = .ok (.ldc2_w 133, 3) := by decide +kernel
theorem dX10_shareOf_70 : decode cX10_shareOf 70 = .ok (.ldiv, 1) := by decide +kernel
theorem dX10_shareOf_71 : decode cX10_shareOf 71 = .ok (.lreturn, 1) := by decide +kernel
theorem dX10_shares_0 : decode cX10_shares 0 = .ok (.lconst 0, 1) := by decide +kernel
theorem dX10_shares_1 : decode cX10_shares 1 = .ok (.lstore_n 2, 1) := by decide +kernel
theorem dX10_shares_2 : decode cX10_shares 2 = .ok (.iconst 0, 1) := by decide +kernel
theorem dX10_shares_3 : decode cX10_shares 3 = .ok (.istore 4, 2) := by decide +kernel
theorem dX10_shares_5 : decode cX10_shares 5 = .ok (.iload 4, 2) := by decide +kernel
theorem dX10_shares_7 : decode cX10_shares 7 = .ok (.aload_n 0, 1) := by decide +kernel
theorem dX10_shares_8 : decode cX10_shares 8 = .ok (.getfield 7, 3) := by decide +kernel
theorem dX10_shares_11 : decode cX10_shares 11 = .ok (.bipush 9, 2) := by decide +kernel
theorem dX10_shares_13 : decode cX10_shares 13 = .ok (.iaload, 1) := by decide +kernel
theorem dX10_shares_14 : decode cX10_shares 14 = .ok (.if_icmp .ge 19, 3) := by decide +kernel
theorem dX10_shares_17 : decode cX10_shares 17 = .ok (.lload_n 2, 1) := by decide +kernel
theorem dX10_shares_18 : decode cX10_shares 18 = .ok (.aload_n 0, 1) := by decide +kernel
theorem dX10_shares_19 : decode cX10_shares 19 = .ok (.iload 4, 2) := by decide +kernel
theorem dX10_shares_21 : decode cX10_shares 21 = .ok (.iload_n 1, 1) := by decide +kernel
theorem dX10_shares_22 : decode cX10_shares 22 = .ok (.invokevirtual 135, 3) := by decide +kernel
theorem dX10_shares_25 : decode cX10_shares 25 = .ok (.ladd, 1) := by decide +kernel
theorem dX10_shares_26 : decode cX10_shares 26 = .ok (.lstore_n 2, 1) := by decide +kernel
theorem dX10_shares_27 : decode cX10_shares 27 = .ok (.iinc 4 1, 3) := by decide +kernel
theorem dX10_shares_30 : decode cX10_shares 30 = .ok (.goto (-25), 3) := by decide +kernel
theorem dX10_shares_33 : decode cX10_shares 33 = .ok (.lload_n 2, 1) := by decide +kernel
theorem dX10_shares_34 : decode cX10_shares 34 = .ok (.lreturn, 1) := by decide +kernel
theorem dX10_unitsBy_0 : decode cX10_unitsBy 0 = .ok (.aload_n 0, 1) := by decide +kernel
theorem dX10_unitsBy_1 : decode cX10_unitsBy 1 = .ok (.iload_n 1, 1) := by decide +kernel
theorem dX10_unitsBy_2 : decode cX10_unitsBy 2 = .ok (.invokevirtual 139, 3) := by decide +kernel
theorem dX10_unitsBy_5 : decode cX10_unitsBy 5 = .ok (.sipush 1000, 3) := by decide +kernel
theorem dX10_unitsBy_8 : decode cX10_unitsBy 8 = .ok (.iload_n 2, 1) := by decide +kernel
theorem dX10_unitsBy_9 : decode cX10_unitsBy 9 = .ok (.iadd, 1) := by decide +kernel
theorem dX10_unitsBy_10 : decode cX10_unitsBy 10 = .ok (.i2l, 1) := by decide +kernel
theorem dX10_unitsBy_11 : decode cX10_unitsBy 11 = .ok (.lmul, 1) := by decide +kernel
theorem dX10_unitsBy_12 : decode cX10_unitsBy 12 = .ok (.ldc2_w 143, 3) := by decide +kernel
theorem dX10_unitsBy_15 : decode cX10_unitsBy 15 = .ok (.ldiv, 1) := by decide +kernel
theorem dX10_unitsBy_16 : decode cX10_unitsBy 16 = .ok (.lreturn, 1) := by decide +kernel
theorem dX10_rutBehind_0 : decode cX10_rutBehind 0 = .ok (.ldc2_w 145, 3) := by decide +kernel
theorem dX10_rutBehind_3 : decode cX10_rutBehind 3 = .ok (.iload_n 1, 1) := by decide +kernel
theorem dX10_rutBehind_4 : decode cX10_rutBehind 4 = .ok (.i2l, 1) := by decide +kernel
theorem dX10_rutBehind_5 : decode cX10_rutBehind 5 = .ok (.lload_n 2, 1) := by decide +kernel
theorem dX10_rutBehind_6 : decode cX10_rutBehind 6 = .ok (.aload_n 0, 1) := by decide +kernel
theorem dX10_rutBehind_7 : decode cX10_rutBehind 7 = .ok (.getfield 7, 3) := by decide +kernel
theorem dX10_rutBehind_10 : decode cX10_rutBehind 10 = .ok (.iconst 0, 1) := by decide +kernel
theorem dX10_rutBehind_11 : decode cX10_rutBehind 11 = .ok (.iaload, 1) := by decide +kernel
theorem dX10_rutBehind_12 : decode cX10_rutBehind 12 = .ok (.i2l, 1) := by decide +kernel
theorem dX10_rutBehind_13 : decode cX10_rutBehind 13 = .ok (.lmul, 1) := by decide +kernel
theorem dX10_rutBehind_14 : decode cX10_rutBehind 14 = .ok (.iload 4, 2) := by decide +kernel
theorem dX10_rutBehind_16 : decode cX10_rutBehind 16 = .ok (.i2l, 1) := by decide +kernel
theorem dX10_rutBehind_17 : decode cX10_rutBehind 17 = .ok (.iload 4, 2) := by decide +kernel
theorem dX10_rutBehind_19 : decode cX10_rutBehind 19 = .ok (.i2l, 1) := by decide +kernel
theorem dX10_rutBehind_20 : decode cX10_rutBehind 20 = .ok (.lmul, 1) := by decide +kernel
theorem dX10_rutBehind_21 : decode cX10_rutBehind 21 = .ok (.ldiv, 1) := by decide +kernel
theorem dX10_rutBehind_22 : decode cX10_rutBehind 22 = .ok (.ladd, 1) := by decide +kernel
theorem dX10_rutBehind_23 : decode cX10_rutBehind 23 = .ok (.invokestatic 119, 3) := by decide +kernel
theorem dX10_rutBehind_26 : decode cX10_rutBehind 26 = .ok (.l2i, 1) := by decide +kernel
theorem dX10_rutBehind_27 : decode cX10_rutBehind 27 = .ok (.ireturn, 1) := by decide +kernel
theorem dX10_looks_0 : decode cX10_looks 0 = .ok (.aload_n 0, 1) := by decide +kernel
theorem dX10_looks_1 : decode cX10_looks 1 = .ok (.invokevirtual 147, 3) := by decide +kernel
theorem dX10_looks_4 : decode cX10_looks 4 = .ok (.aload_n 0, 1) := by decide +kernel
theorem dX10_looks_5 : decode cX10_looks 5 = .ok (.aload_n 0, 1) := by decide +kernel
theorem dX10_looks_6 : decode cX10_looks 6 = .ok (.iload_n 1, 1) := by decide +kernel
theorem dX10_looks_7 : decode cX10_looks 7 = .ok (.iconst 0, 1) := by decide +kernel
theorem dX10_looks_8 : decode cX10_looks 8 = .ok (.invokevirtual 87, 3) := by decide +kernel
theorem dX10_looks_11 : decode cX10_looks 11 = .ok (.putfield 150, 3) := by decide +kernel
theorem dX10_looks_14 : decode cX10_looks 14 = .ok (.aload_n 0, 1) := by decide +kernel
theorem dX10_looks_15 : decode cX10_looks 15 = .ok (.aload_n 0, 1) := by decide +kernel
theorem dX10_looks_16 : decode cX10_looks 16 = .ok (.getfield 22, 3) := by decide +kernel
theorem dX10_looks_19 : decode cX10_looks 19 = .ok (.iload_n 1, 1) := by decide +kernel
theorem dX10_looks_20 : decode cX10_looks 20 = .ok (.laload, 1) := by decide +kernel
theorem dX10_looks_21 : decode cX10_looks 21 = .ok (.putfield 153, 3) := by decide +kernel
theorem dX10_looks_24 : decode cX10_looks 24 = .ok (.return_, 1) := by decide +kernel
theorem dX10_steps_0 : decode cX10_steps 0 = .ok (.aload_n 0, 1) := by decide +kernel
theorem dX10_steps_1 : decode cX10_steps 1 = .ok (.iload_n 1, 1) := by decide +kernel
theorem dX10_steps_2 : decode cX10_steps 2 = .ok (.aload_n 0, 1) := by decide +kernel
theorem dX10_steps_3 : decode cX10_steps 3 = .ok (.getfield 150, 3) := by decide +kernel
theorem dX10_steps_6 : decode cX10_steps 6 = .ok (.invokevirtual 157, 3) := by decide +kernel
theorem dX10_steps_9 : decode cX10_steps 9 = .ok (.lstore_n 2, 1) := by decide +kernel
theorem dX10_steps_10 : decode cX10_steps 10 = .ok (.aload_n 0, 1) := by decide +kernel
theorem dX10_steps_11 : decode cX10_steps 11 = .ok (.aload_n 0, 1) := by decide +kernel
theorem dX10_steps_12 : decode cX10_steps 12 = .ok (.aload_n 0, 1) := by decide +kernel
theorem dX10_steps_13 : decode cX10_steps 13 = .ok (.getfield 150, 3) := by decide +kernel
theorem dX10_steps_16 : decode cX10_steps 16 = .ok (.lload_n 2, 1) := by decide +kernel
theorem dX10_steps_17 : decode cX10_steps 17 = .ok (.aload_n 0, 1) := by decide +kernel
theorem dX10_steps_18 : decode cX10_steps 18 = .ok (.iload_n 1, 1) := by decide +kernel
theorem dX10_steps_19 : decode cX10_steps 19 = .ok (.invokevirtual 105, 3) := by decide +kernel
theorem dX10_steps_22 : decode cX10_steps 22 = .ok (.invokevirtual 160, 3) := by decide +kernel
theorem dX10_steps_25 : decode cX10_steps 25 = .ok (.putfield 150, 3) := by decide +kernel
theorem dX10_steps_28 : decode cX10_steps 28 = .ok (.aload_n 0, 1) := by decide +kernel
theorem dX10_steps_29 : decode cX10_steps 29 = .ok (.dup, 1) := by decide +kernel
theorem dX10_steps_30 : decode cX10_steps 30 = .ok (.getfield 153, 3) := by decide +kernel
theorem dX10_steps_33 : decode cX10_steps 33 = .ok (.lload_n 2, 1) := by decide +kernel
theorem dX10_steps_34 : decode cX10_steps 34 = .ok (.ladd, 1) := by decide +kernel
theorem dX10_steps_35 : decode cX10_steps 35 = .ok (.putfield 153, 3) := by decide +kernel
theorem dX10_steps_38 : decode cX10_steps 38 = .ok (.aload_n 0, 1) := by decide +kernel
theorem dX10_steps_39 : decode cX10_steps 39 = .ok (.invokevirtual 164, 3) := by decide +kernel
theorem dX10_steps_42 : decode cX10_steps 42 = .ok (.return_, 1) := by decide +kernel
theorem dX10_stepsOn_0 : decode cX10_stepsOn 0 = .ok (.aload_n 0, 1) := by decide +kernel
theorem dX10_stepsOn_1 : decode cX10_stepsOn 1 = .ok (.iload_n 1, 1) := by decide +kernel
theorem dX10_stepsOn_2 : decode cX10_stepsOn 2 = .ok (.invokevirtual 167, 3) := by decide +kernel
theorem dX10_stepsOn_5 : decode cX10_stepsOn 5 = .ok (.iconst 0, 1) := by decide +kernel
theorem dX10_stepsOn_6 : decode cX10_stepsOn 6 = .ok (.istore_n 3, 1) := by decide +kernel
theorem dX10_stepsOn_7 : decode cX10_stepsOn 7 = .ok (.iload_n 3, 1) := by decide +kernel
theorem dX10_stepsOn_8 : decode cX10_stepsOn 8 = .ok (.iload_n 2, 1) := by decide +kernel
theorem dX10_stepsOn_9 : decode cX10_stepsOn 9 = .ok (.if_icmp .ge 14, 3) := by decide +kernel
theorem dX10_stepsOn_12 : decode cX10_stepsOn 12 = .ok (.aload_n 0, 1) := by decide +kernel
theorem dX10_stepsOn_13 : decode cX10_stepsOn 13 = .ok (.iload_n 1, 1) := by decide +kernel
theorem dX10_stepsOn_14 : decode cX10_stepsOn 14 = .ok (.invokevirtual 171, 3) := by decide +kernel
theorem dX10_stepsOn_17 : decode cX10_stepsOn 17 = .ok (.iinc 3 1, 3) := by decide +kernel
theorem dX10_stepsOn_20 : decode cX10_stepsOn 20 = .ok (.goto (-13), 3) := by decide +kernel
theorem dX10_stepsOn_23 : decode cX10_stepsOn 23 = .ok (.return_, 1) := by decide +kernel
theorem dX10_isOver_0 : decode cX10_isOver 0 = .ok (.aload_n 0, 1) := by decide +kernel
theorem dX10_isOver_1 : decode cX10_isOver 1 = .ok (.getfield 150, 3) := by decide +kernel
theorem dX10_isOver_4 : decode cX10_isOver 4 = .ok (.aload_n 0, 1) := by decide +kernel
theorem dX10_isOver_5 : decode cX10_isOver 5 = .ok (.getfield 7, 3) := by decide +kernel
theorem dX10_isOver_8 : decode cX10_isOver 8 = .ok (.iconst 1, 1) := by decide +kernel
theorem dX10_isOver_9 : decode cX10_isOver 9 = .ok (.iaload, 1) := by decide +kernel
theorem dX10_isOver_10 : decode cX10_isOver 10 = .ok (.if_icmp .ge 16, 3) := by decide +kernel
theorem dX10_isOver_13 : decode cX10_isOver 13 = .ok (.aload_n 0, 1) := by decide +kernel
theorem dX10_isOver_14 : decode cX10_isOver 14 = .ok (.getfield 153, 3) := by decide +kernel
theorem dX10_isOver_17 : decode cX10_isOver 17 = .ok (.aload_n 0, 1) := by decide +kernel
theorem dX10_isOver_18 : decode cX10_isOver 18 = .ok (.iload_n 1, 1) := by decide +kernel
theorem dX10_isOver_19 : decode cX10_isOver 19 = .ok (.invokevirtual 174, 3) := by decide +kernel
theorem dX10_isOver_22 : decode cX10_isOver 22 = .ok (.lcmp, 1) := by decide +kernel
theorem dX10_isOver_23 : decode cX10_isOver 23 = .ok (.ifCond .lt 7, 3) := by decide +kernel
theorem dX10_isOver_26 : decode cX10_isOver 26 = .ok (.iconst 1, 1) := by decide +kernel
theorem dX10_isOver_27 : decode cX10_isOver 27 = .ok (.goto 4, 3) := by decide +kernel
theorem dX10_isOver_30 : decode cX10_isOver 30 = .ok (.iconst 0, 1) := by decide +kernel
theorem dX10_isOver_31 : decode cX10_isOver 31 = .ok (.ireturn, 1) := by decide +kernel
theorem dX10_yearsFrom_0 : decode cX10_yearsFrom 0 = .ok (.iconst 0, 1) := by decide +kernel
theorem dX10_yearsFrom_1 : decode cX10_yearsFrom 1 = .ok (.istore_n 2, 1) := by decide +kernel
theorem dX10_yearsFrom_2 : decode cX10_yearsFrom 2 = .ok (.iload_n 2, 1) := by decide +kernel
theorem dX10_yearsFrom_3 : decode cX10_yearsFrom 3 = .ok (.bipush 60, 2) := by decide +kernel
theorem dX10_yearsFrom_5 : decode cX10_yearsFrom 5 = .ok (.if_icmp .gt 24, 3) := by decide +kernel
theorem dX10_yearsFrom_8 : decode cX10_yearsFrom 8 = .ok (.aload_n 0, 1) := by decide +kernel
theorem dX10_yearsFrom_9 : decode cX10_yearsFrom 9 = .ok (.iload_n 1, 1) := by decide +kernel
theorem dX10_yearsFrom_10 : decode cX10_yearsFrom 10 = .ok (.invokevirtual 177, 3) := by decide +kernel
theorem dX10_yearsFrom_13 : decode cX10_yearsFrom 13 = .ok (.ifCond .eq 5, 3) := by decide +kernel
theorem dX10_yearsFrom_16 : decode cX10_yearsFrom 16 = .ok (.iload_n 2, 1) := by decide +kernel
theorem dX10_yearsFrom_17 : decode cX10_yearsFrom 17 = .ok (.ireturn, 1) := by decide +kernel
theorem dX10_yearsFrom_18 : decode cX10_yearsFrom 18 = .ok (.aload_n 0, 1) := by decide +kernel
theorem dX10_yearsFrom_19 : decode cX10_yearsFrom 19 = .ok (.iload_n 1, 1) := by decide +kernel
theorem dX10_yearsFrom_20 : decode cX10_yearsFrom 20 = .ok (.invokevirtual 171, 3) := by decide +kernel
theorem dX10_yearsFrom_23 : decode cX10_yearsFrom 23 = .ok (.iinc 2 1, 3) := by decide +kernel
theorem dX10_yearsFrom_26 : decode cX10_yearsFrom 26 = .ok (.goto (-24), 3) := by decide +kernel
theorem dX10_yearsFrom_29 : decode cX10_yearsFrom 29 = .ok (.iconst (-1), 1) := by decide +kernel
theorem dX10_yearsFrom_30 : decode cX10_yearsFrom 30 = .ok (.ireturn, 1) := by decide +kernel
theorem dX10_yearsOf_0 : decode cX10_yearsOf 0 = .ok (.aload_n 0, 1) := by decide +kernel
theorem dX10_yearsOf_1 : decode cX10_yearsOf 1 = .ok (.iload_n 1, 1) := by decide +kernel
theorem dX10_yearsOf_2 : decode cX10_yearsOf 2 = .ok (.invokevirtual 167, 3) := by decide +kernel
theorem dX10_yearsOf_5 : decode cX10_yearsOf 5 = .ok (.aload_n 0, 1) := by decide +kernel
theorem dX10_yearsOf_6 : decode cX10_yearsOf 6 = .ok (.iload_n 1, 1) := by decide +kernel
theorem dX10_yearsOf_7 : decode cX10_yearsOf 7 = .ok (.invokevirtual 180, 3) := by decide +kernel
theorem dX10_yearsOf_10 : decode cX10_yearsOf 10 = .ok (.ireturn, 1) := by decide +kernel
theorem dX10_yearsAsNumber_0 : decode cX10_yearsAsNumber 0 = .ok (.aload_n 0, 1) := by decide +kernel
theorem dX10_yearsAsNumber_1 : decode cX10_yearsAsNumber 1 = .ok (.iload_n 1, 1) := by decide +kernel
theorem dX10_yearsAsNumber_2 : decode cX10_yearsAsNumber 2 = .ok (.invokevirtual 183, 3) := by decide +kernel
theorem dX10_yearsAsNumber_5 : decode cX10_yearsAsNumber 5 = .ok (.istore_n 2, 1) := by decide +kernel
theorem dX10_yearsAsNumber_6 : decode cX10_yearsAsNumber 6 = .ok (.iload_n 2, 1) := by decide +kernel
theorem dX10_yearsAsNumber_7 : decode cX10_yearsAsNumber 7 = .ok (.iconst (-1), 1) := by decide +kernel
theorem dX10_yearsAsNumber_8 : decode cX10_yearsAsNumber 8 = .ok (.if_icmp .ne 8, 3) := by decide +kernel
theorem dX10_yearsAsNumber_11 : decode cX10_yearsAsNumber 11 = .ok (.bipush 61, 2) := by decide +kernel
theorem dX10_yearsAsNumber_13 : decode cX10_yearsAsNumber 13 = .ok (.goto 4, 3) := by decide +kernel
theorem dX10_yearsAsNumber_16 : decode cX10_yearsAsNumber 16 = .ok (.iload_n 2, 1) := by decide +kernel
theorem dX10_yearsAsNumber_17 : decode cX10_yearsAsNumber 17 = .ok (.ireturn, 1) := by decide +kernel
theorem dX10_yearsOfLane_0 : decode cX10_yearsOfLane 0 = .ok (.bipush 61, 2) := by decide +kernel
theorem dX10_yearsOfLane_2 : decode cX10_yearsOfLane 2 = .ok (.istore_n 2, 1) := by decide +kernel
theorem dX10_yearsOfLane_3 : decode cX10_yearsOfLane 3 = .ok (.iconst 0, 1) := by decide +kernel
theorem dX10_yearsOfLane_4 : decode cX10_yearsOfLane 4 = .ok (.istore_n 3, 1) := by decide +kernel
theorem dX10_yearsOfLane_5 : decode cX10_yearsOfLane 5 = .ok (.iload_n 3, 1) := by decide +kernel
theorem dX10_yearsOfLane_6 : decode cX10_yearsOfLane 6 = .ok (.aload_n 0, 1) := by decide +kernel
theorem dX10_yearsOfLane_7 : decode cX10_yearsOfLane 7 = .ok (.getfield 7, 3) := by decide +kernel
theorem dX10_yearsOfLane_10 : decode cX10_yearsOfLane 10 = .ok (.bipush 6, 2) := by decide +kernel
theorem dX10_yearsOfLane_12 : decode cX10_yearsOfLane 12 = .ok (.iaload, 1) := by decide +kernel
theorem dX10_yearsOfLane_13 : decode cX10_yearsOfLane 13 = .ok (.if_icmp .ge 29, 3) := by decide +kernel
theorem dX10_yearsOfLane_16 : decode cX10_yearsOfLane 16 = .ok (.iload_n 2, 1) := by decide +kernel
theorem dX10_yearsOfLane_17 : decode cX10_yearsOfLane 17 = .ok (.aload_n 0, 1) := by decide +kernel
theorem dX10_yearsOfLane_18 : decode cX10_yearsOfLane 18 = .ok (.aload_n 0, 1) := by decide +kernel
theorem dX10_yearsOfLane_19 : decode cX10_yearsOfLane 19 = .ok (.getfield 7, 3) := by decide +kernel
theorem dX10_yearsOfLane_22 : decode cX10_yearsOfLane 22 = .ok (.bipush 6, 2) := by decide +kernel
theorem dX10_yearsOfLane_24 : decode cX10_yearsOfLane 24 = .ok (.iaload, 1) := by decide +kernel
theorem dX10_yearsOfLane_25 : decode cX10_yearsOfLane 25 = .ok (.iload_n 1, 1) := by decide +kernel
theorem dX10_yearsOfLane_26 : decode cX10_yearsOfLane 26 = .ok (.imul, 1) := by decide +kernel
theorem dX10_yearsOfLane_27 : decode cX10_yearsOfLane 27 = .ok (.iload_n 3, 1) := by decide +kernel
theorem dX10_yearsOfLane_28 : decode cX10_yearsOfLane 28 = .ok (.iadd, 1) := by decide +kernel
theorem dX10_yearsOfLane_29 : decode cX10_yearsOfLane 29 = .ok (.invokevirtual 186, 3) := by decide +kernel
theorem dX10_yearsOfLane_32 : decode cX10_yearsOfLane 32 = .ok (.invokestatic 189, 3) := by decide +kernel
theorem dX10_yearsOfLane_35 : decode cX10_yearsOfLane 35 = .ok (.istore_n 2, 1) := by decide +kernel
theorem dX10_yearsOfLane_36 : decode cX10_yearsOfLane 36 = .ok (.iinc 3 1, 3) := by decide +kernel
theorem dX10_yearsOfLane_39 : decode cX10_yearsOfLane 39 = .ok (.goto (-34), 3) := by decide +kernel
theorem dX10_yearsOfLane_42 : decode cX10_yearsOfLane 42 = .ok (.iload_n 2, 1) := by decide +kernel
theorem dX10_yearsOfLane_43 : decode cX10_yearsOfLane 43 = .ok (.bipush 60, 2) := by decide +kernel
theorem dX10_yearsOfLane_45 : decode cX10_yearsOfLane 45 = .ok (.if_icmp .le 7, 3) := by decide +kernel
theorem dX10_yearsOfLane_48 : decode cX10_yearsOfLane 48 = .ok (.iconst (-1), 1) := by decide +kernel
theorem dX10_yearsOfLane_49 : decode cX10_yearsOfLane 49 = .ok (.goto 4, 3) := by decide +kernel
theorem dX10_yearsOfLane_52 : decode cX10_yearsOfLane 52 = .ok (.iload_n 2, 1) := by decide +kernel
theorem dX10_yearsOfLane_53 : decode cX10_yearsOfLane 53 = .ok (.ireturn, 1) := by decide +kernel
theorem dX10_failsNow_0 : decode cX10_failsNow 0 = .ok (.aload_n 0, 1) := by decide +kernel
theorem dX10_failsNow_1 : decode cX10_failsNow 1 = .ok (.iload_n 1, 1) := by decide +kernel
theorem dX10_failsNow_2 : decode cX10_failsNow 2 = .ok (.iconst 0, 1) := by decide +kernel
theorem dX10_failsNow_3 : decode cX10_failsNow 3 = .ok (.invokevirtual 87, 3) := by decide +kernel
theorem dX10_failsNow_6 : decode cX10_failsNow 6 = .ok (.aload_n 0, 1) := by decide +kernel
theorem dX10_failsNow_7 : decode cX10_failsNow 7 = .ok (.getfield 7, 3) := by decide +kernel
theorem dX10_failsNow_10 : decode cX10_failsNow 10 = .ok (.iconst 1, 1) := by decide +kernel
theorem dX10_failsNow_11 : decode cX10_failsNow 11 = .ok (.iaload, 1) := by decide +kernel
theorem dX10_failsNow_12 : decode cX10_failsNow 12 = .ok (.if_icmp .lt 7, 3) := by decide +kernel
theorem dX10_failsNow_15 : decode cX10_failsNow 15 = .ok (.iconst 1, 1) := by decide +kernel
theorem dX10_failsNow_16 : decode cX10_failsNow 16 = .ok (.goto 4, 3) := by decide +kernel
theorem dX10_failsNow_19 : decode cX10_failsNow 19 = .ok (.iconst 0, 1) := by decide +kernel
theorem dX10_failsNow_20 : decode cX10_failsNow 20 = .ok (.aload_n 0, 1) := by decide +kernel
theorem dX10_failsNow_21 : decode cX10_failsNow 21 = .ok (.getfield 22, 3) := by decide +kernel
theorem dX10_failsNow_24 : decode cX10_failsNow 24 = .ok (.iload_n 1, 1) := by decide +kernel
theorem dX10_failsNow_25 : decode cX10_failsNow 25 = .ok (.laload, 1) := by decide +kernel
theorem dX10_failsNow_26 : decode cX10_failsNow 26 = .ok (.aload_n 0, 1) := by decide +kernel
theorem dX10_failsNow_27 : decode cX10_failsNow 27 = .ok (.iload_n 1, 1) := by decide +kernel
theorem dX10_failsNow_28 : decode cX10_failsNow 28 = .ok (.invokevirtual 174, 3) := by decide +kernel
theorem dX10_failsNow_31 : decode cX10_failsNow 31 = .ok (.lcmp, 1) := by decide +kernel
theorem dX10_failsNow_32 : decode cX10_failsNow 32 = .ok (.ifCond .lt 7, 3) := by decide +kernel
theorem dX10_failsNow_35 : decode cX10_failsNow 35 = .ok (.iconst 2, 1) := by decide +kernel
theorem dX10_failsNow_36 : decode cX10_failsNow 36 = .ok (.goto 4, 3) := by decide +kernel
theorem dX10_failsNow_39 : decode cX10_failsNow 39 = .ok (.iconst 0, 1) := by decide +kernel
theorem dX10_failsNow_40 : decode cX10_failsNow 40 = .ok (.iadd, 1) := by decide +kernel
theorem dX10_failsNow_41 : decode cX10_failsNow 41 = .ok (.ireturn, 1) := by decide +kernel
theorem dX10_aYear_0 : decode cX10_aYear 0 = .ok (.aload_n 0, 1) := by decide +kernel
theorem dX10_aYear_1 : decode cX10_aYear 1 = .ok (.invokevirtual 147, 3) := by decide +kernel
theorem dX10_aYear_4 : decode cX10_aYear 4 = .ok (.iconst 0, 1) := by decide +kernel
theorem dX10_aYear_5 : decode cX10_aYear 5 = .ok (.istore_n 1, 1) := by decide +kernel
theorem dX10_aYear_6 : decode cX10_aYear 6 = .ok (.iload_n 1, 1) := by decide +kernel
theorem dX10_aYear_7 : decode cX10_aYear 7 = .ok (.aload_n 0, 1) := by decide +kernel
theorem dX10_aYear_8 : decode cX10_aYear 8 = .ok (.invokevirtual 191, 3) := by decide +kernel
theorem dX10_aYear_11 : decode cX10_aYear 11 = .ok (.if_icmp .ge 53, 3) := by decide +kernel
theorem dX10_aYear_14 : decode cX10_aYear 14 = .ok (.aload_n 0, 1) := by decide +kernel
theorem dX10_aYear_15 : decode cX10_aYear 15 = .ok (.iload_n 1, 1) := by decide +kernel
theorem dX10_aYear_16 : decode cX10_aYear 16 = .ok (.aload_n 0, 1) := by decide +kernel
theorem dX10_aYear_17 : decode cX10_aYear 17 = .ok (.iload_n 1, 1) := by decide +kernel
theorem dX10_aYear_18 : decode cX10_aYear 18 = .ok (.iconst 0, 1) := by decide +kernel
theorem dX10_aYear_19 : decode cX10_aYear 19 = .ok (.invokevirtual 87, 3) := by decide +kernel
theorem dX10_aYear_22 : decode cX10_aYear 22 = .ok (.invokevirtual 157, 3) := by decide +kernel
theorem dX10_aYear_25 : decode cX10_aYear 25 = .ok (.lstore_n 2, 1) := by decide +kernel
theorem dX10_aYear_26 : decode cX10_aYear 26 = .ok (.aload_n 0, 1) := by decide +kernel
theorem dX10_aYear_27 : decode cX10_aYear 27 = .ok (.iload_n 1, 1) := by decide +kernel
theorem dX10_aYear_28 : decode cX10_aYear 28 = .ok (.iconst 0, 1) := by decide +kernel
theorem dX10_aYear_29 : decode cX10_aYear 29 = .ok (.aload_n 0, 1) := by decide +kernel
theorem dX10_aYear_30 : decode cX10_aYear 30 = .ok (.aload_n 0, 1) := by decide +kernel
theorem dX10_aYear_31 : decode cX10_aYear 31 = .ok (.iload_n 1, 1) := by decide +kernel
theorem dX10_aYear_32 : decode cX10_aYear 32 = .ok (.iconst 0, 1) := by decide +kernel
theorem dX10_aYear_33 : decode cX10_aYear 33 = .ok (.invokevirtual 87, 3) := by decide +kernel
theorem dX10_aYear_36 : decode cX10_aYear 36 = .ok (.lload_n 2, 1) := by decide +kernel
theorem dX10_aYear_37 : decode cX10_aYear 37 = .ok (.aload_n 0, 1) := by decide +kernel
theorem dX10_aYear_38 : decode cX10_aYear 38 = .ok (.iload_n 1, 1) := by decide +kernel
theorem dX10_aYear_39 : decode cX10_aYear 39 = .ok (.invokevirtual 105, 3) := by decide +kernel
theorem dX10_aYear_42 : decode cX10_aYear 42 = .ok (.invokevirtual 160, 3) := by decide +kernel
theorem dX10_aYear_45 : decode cX10_aYear 45 = .ok (.invokevirtual 195, 3) := by decide +kernel
theorem dX10_aYear_48 : decode cX10_aYear 48 = .ok (.aload_n 0, 1) := by decide +kernel
theorem dX10_aYear_49 : decode cX10_aYear 49 = .ok (.getfield 22, 3) := by decide +kernel
theorem dX10_aYear_52 : decode cX10_aYear 52 = .ok (.iload_n 1, 1) := by decide +kernel
theorem dX10_aYear_53 : decode cX10_aYear 53 = .ok (.dup2, 1) := by decide +kernel
theorem dX10_aYear_54 : decode cX10_aYear 54 = .ok (.laload, 1) := by decide +kernel
theorem dX10_aYear_55 : decode cX10_aYear 55 = .ok (.lload_n 2, 1) := by decide +kernel
theorem dX10_aYear_56 : decode cX10_aYear 56 = .ok (.ladd, 1) := by decide +kernel
theorem dX10_aYear_57 : decode cX10_aYear 57 = .ok (.lastore, 1) := by decide +kernel
theorem dX10_aYear_58 : decode cX10_aYear 58 = .ok (.iinc 1 1, 3) := by decide +kernel
theorem dX10_aYear_61 : decode cX10_aYear 61 = .ok (.goto (-55), 3) := by decide +kernel
theorem dX10_aYear_64 : decode cX10_aYear 64 = .ok (.aload_n 0, 1) := by decide +kernel
theorem dX10_aYear_65 : decode cX10_aYear 65 = .ok (.invokevirtual 164, 3) := by decide +kernel
theorem dX10_aYear_68 : decode cX10_aYear 68 = .ok (.iconst 0, 1) := by decide +kernel
theorem dX10_aYear_69 : decode cX10_aYear 69 = .ok (.istore_n 1, 1) := by decide +kernel
theorem dX10_aYear_70 : decode cX10_aYear 70 = .ok (.iload_n 1, 1) := by decide +kernel
theorem dX10_aYear_71 : decode cX10_aYear 71 = .ok (.aload_n 0, 1) := by decide +kernel
theorem dX10_aYear_72 : decode cX10_aYear 72 = .ok (.getfield 7, 3) := by decide +kernel
theorem dX10_aYear_75 : decode cX10_aYear 75 = .ok (.bipush 9, 2) := by decide +kernel
theorem dX10_aYear_77 : decode cX10_aYear 77 = .ok (.iaload, 1) := by decide +kernel
theorem dX10_aYear_78 : decode cX10_aYear 78 = .ok (.if_icmp .ge 30, 3) := by decide +kernel
theorem dX10_aYear_81 : decode cX10_aYear 81 = .ok (.aload_n 0, 1) := by decide +kernel
theorem dX10_aYear_82 : decode cX10_aYear 82 = .ok (.getfield 7, 3) := by decide +kernel
theorem dX10_aYear_85 : decode cX10_aYear 85 = .ok (.sipush 145, 3) := by decide +kernel
theorem dX10_aYear_88 : decode cX10_aYear 88 = .ok (.bipush 6, 2) := by decide +kernel
theorem dX10_aYear_90 : decode cX10_aYear 90 = .ok (.iload_n 1, 1) := by decide +kernel
theorem dX10_aYear_91 : decode cX10_aYear 91 = .ok (.imul, 1) := by decide +kernel
theorem dX10_aYear_92 : decode cX10_aYear 92 = .ok (.iadd, 1) := by decide +kernel
theorem dX10_aYear_93 : decode cX10_aYear 93 = .ok (.iconst 4, 1) := by decide +kernel
theorem dX10_aYear_94 : decode cX10_aYear 94 = .ok (.iadd, 1) := by decide +kernel
theorem dX10_aYear_95 : decode cX10_aYear 95 = .ok (.aload_n 0, 1) := by decide +kernel
theorem dX10_aYear_96 : decode cX10_aYear 96 = .ok (.getfield 32, 3) := by decide +kernel
theorem dX10_aYear_99 : decode cX10_aYear 99 = .ok (.iload_n 1, 1) := by decide +kernel
theorem dX10_aYear_100 : decode cX10_aYear 100 = .ok (.iaload, 1) := by decide +kernel
theorem dX10_aYear_101 : decode cX10_aYear 101 = .ok (.iastore, 1) := by decide +kernel
theorem dX10_aYear_102 : decode cX10_aYear 102 = .ok (.iinc 1 1, 3) := by decide +kernel
theorem dX10_aYear_105 : decode cX10_aYear 105 = .ok (.goto (-35), 3) := by decide +kernel
theorem dX10_aYear_108 : decode cX10_aYear 108 = .ok (.aload_n 0, 1) := by decide +kernel
theorem dX10_aYear_109 : decode cX10_aYear 109 = .ok (.getfield 7, 3) := by decide +kernel
theorem dX10_aYear_112 : decode cX10_aYear 112 = .ok (.bipush 10, 2) := by decide +kernel
theorem dX10_aYear_114 : decode cX10_aYear 114 = .ok (.dup2, 1) := by decide +kernel
theorem dX10_aYear_115 : decode cX10_aYear 115 = .ok (.iaload, 1) := by decide +kernel
theorem dX10_aYear_116 : decode cX10_aYear 116 = .ok (.iconst 1, 1) := by decide +kernel
theorem dX10_aYear_117 : decode cX10_aYear 117 = .ok (.iadd, 1) := by decide +kernel
theorem dX10_aYear_118 : decode cX10_aYear 118 = .ok (.iastore, 1) := by decide +kernel
theorem dX10_aYear_119 : decode cX10_aYear 119 = .ok (.return_, 1) := by decide +kernel
theorem dX10_begun_0 : decode cX10_begun 0 = .ok (.iload_n 0, 1) := by decide +kernel
theorem dX10_begun_1 : decode cX10_begun 1 = .ok (.bipush 9, 2) := by decide +kernel
theorem dX10_begun_3 : decode cX10_begun 3 = .ok (.iadd, 1) := by decide +kernel
theorem dX10_begun_4 : decode cX10_begun 4 = .ok (.bipush 10, 2) := by decide +kernel
theorem dX10_begun_6 : decode cX10_begun 6 = .ok (.idiv, 1) := by decide +kernel
theorem dX10_begun_7 : decode cX10_begun 7 = .ok (.ireturn, 1) := by decide +kernel
theorem dX10_costOf_0 : decode cX10_costOf 0 = .ok (.iload_n 1, 1) := by decide +kernel
theorem dX10_costOf_1 : decode cX10_costOf 1 = .ok (.iconst 1, 1) := by decide +kernel
theorem dX10_costOf_2 : decode cX10_costOf 2 = .ok (.if_icmp .ne 22, 3) := by decide +kernel
theorem dX10_costOf_5 : decode cX10_costOf 5 = .ok (.aload_n 0, 1) := by decide +kernel
theorem dX10_costOf_6 : decode cX10_costOf 6 = .ok (.getfield 7, 3) := by decide +kernel
theorem dX10_costOf_9 : decode cX10_costOf 9 = .ok (.iconst 3, 1) := by decide +kernel
theorem dX10_costOf_10 : decode cX10_costOf 10 = .ok (.iaload, 1) := by decide +kernel
theorem dX10_costOf_11 : decode cX10_costOf 11 = .ok (.aload_n 0, 1) := by decide +kernel
theorem dX10_costOf_12 : decode cX10_costOf 12 = .ok (.iload_n 2, 1) := by decide +kernel
theorem dX10_costOf_13 : decode cX10_costOf 13 = .ok (.iconst 0, 1) := by decide +kernel
theorem dX10_costOf_14 : decode cX10_costOf 14 = .ok (.invokevirtual 87, 3) := by decide +kernel
theorem dX10_costOf_17 : decode cX10_costOf 17 = .ok (.invokestatic 199, 3) := by decide +kernel
theorem dX10_costOf_20 : decode cX10_costOf 20 = .ok (.imul, 1) := by decide +kernel
theorem dX10_costOf_21 : decode cX10_costOf 21 = .ok (.goto 28, 3) := by decide +kernel
theorem dX10_costOf_24 : decode cX10_costOf 24 = .ok (.iload_n 1, 1) := by decide +kernel
theorem dX10_costOf_25 : decode cX10_costOf 25 = .ok (.iconst 2, 1) := by decide +kernel
theorem dX10_costOf_26 : decode cX10_costOf 26 = .ok (.if_icmp .ne 17, 3) := by decide +kernel
theorem dX10_costOf_29 : decode cX10_costOf 29 = .ok (.aload_n 0, 1) := by decide +kernel
theorem dX10_costOf_30 : decode cX10_costOf 30 = .ok (.getfield 7, 3) := by decide +kernel
theorem dX10_costOf_33 : decode cX10_costOf 33 = .ok (.iconst 4, 1) := by decide +kernel
theorem dX10_costOf_34 : decode cX10_costOf 34 = .ok (.iaload, 1) := by decide +kernel
theorem dX10_costOf_35 : decode cX10_costOf 35 = .ok (.iload_n 3, 1) := by decide +kernel
theorem dX10_costOf_36 : decode cX10_costOf 36 = .ok (.invokestatic 199, 3) := by decide +kernel
theorem dX10_costOf_39 : decode cX10_costOf 39 = .ok (.imul, 1) := by decide +kernel
theorem dX10_costOf_40 : decode cX10_costOf 40 = .ok (.goto 9, 3) := by decide +kernel
theorem dX10_costOf_43 : decode cX10_costOf 43 = .ok (.aload_n 0, 1) := by decide +kernel
theorem dX10_costOf_44 : decode cX10_costOf 44 = .ok (.getfield 7, 3) := by decide +kernel
theorem dX10_costOf_47 : decode cX10_costOf 47 = .ok (.iconst 5, 1) := by decide +kernel
theorem dX10_costOf_48 : decode cX10_costOf 48 = .ok (.iaload, 1) := by decide +kernel
theorem dX10_costOf_49 : decode cX10_costOf 49 = .ok (.ireturn, 1) := by decide +kernel
theorem dX10_isAsNew_0 : decode cX10_isAsNew 0 = .ok (.aload_n 0, 1) := by decide +kernel
theorem dX10_isAsNew_1 : decode cX10_isAsNew 1 = .ok (.iload_n 1, 1) := by decide +kernel
theorem dX10_isAsNew_2 : decode cX10_isAsNew 2 = .ok (.iconst 2, 1) := by decide +kernel
theorem dX10_isAsNew_3 : decode cX10_isAsNew 3 = .ok (.invokevirtual 87, 3) := by decide +kernel
theorem dX10_isAsNew_6 : decode cX10_isAsNew 6 = .ok (.iconst 1, 1) := by decide +kernel
theorem dX10_isAsNew_7 : decode cX10_isAsNew 7 = .ok (.if_icmp .ne 36, 3) := by decide +kernel
theorem dX10_isAsNew_10 : decode cX10_isAsNew 10 = .ok (.aload_n 0, 1) := by decide +kernel
theorem dX10_isAsNew_11 : decode cX10_isAsNew 11 = .ok (.iload_n 1, 1) := by decide +kernel
theorem dX10_isAsNew_12 : decode cX10_isAsNew 12 = .ok (.iconst 1, 1) := by decide +kernel
theorem dX10_isAsNew_13 : decode cX10_isAsNew 13 = .ok (.invokevirtual 87, 3) := by decide +kernel
theorem dX10_isAsNew_16 : decode cX10_isAsNew 16 = .ok (.ifCond .ne 27, 3) := by decide +kernel
theorem dX10_isAsNew_19 : decode cX10_isAsNew 19 = .ok (.aload_n 0, 1) := by decide +kernel
theorem dX10_isAsNew_20 : decode cX10_isAsNew 20 = .ok (.iload_n 1, 1) := by decide +kernel
theorem dX10_isAsNew_21 : decode cX10_isAsNew 21 = .ok (.iconst 0, 1) := by decide +kernel
theorem dX10_isAsNew_22 : decode cX10_isAsNew 22 = .ok (.invokevirtual 87, 3) := by decide +kernel
theorem dX10_isAsNew_25 : decode cX10_isAsNew 25 = .ok (.ifCond .ne 18, 3) := by decide +kernel
theorem dX10_isAsNew_28 : decode cX10_isAsNew 28 = .ok (.aload_n 0, 1) := by decide +kernel
theorem dX10_isAsNew_29 : decode cX10_isAsNew 29 = .ok (.getfield 22, 3) := by decide +kernel
theorem dX10_isAsNew_32 : decode cX10_isAsNew 32 = .ok (.iload_n 1, 1) := by decide +kernel
theorem dX10_isAsNew_33 : decode cX10_isAsNew 33 = .ok (.laload, 1) := by decide +kernel
theorem dX10_isAsNew_34 : decode cX10_isAsNew 34 = .ok (.lconst 0, 1) := by decide +kernel
theorem dX10_isAsNew_35 : decode cX10_isAsNew 35 = .ok (.lcmp, 1) := by decide +kernel
theorem dX10_isAsNew_36 : decode cX10_isAsNew 36 = .ok (.ifCond .ne 7, 3) := by decide +kernel
theorem dX10_isAsNew_39 : decode cX10_isAsNew 39 = .ok (.iconst 1, 1) := by decide +kernel
theorem dX10_isAsNew_40 : decode cX10_isAsNew 40 = .ok (.goto 4, 3) := by decide +kernel
theorem dX10_isAsNew_43 : decode cX10_isAsNew 43 = .ok (.iconst 0, 1) := by decide +kernel
theorem dX10_isAsNew_44 : decode cX10_isAsNew 44 = .ok (.ireturn, 1) := by decide +kernel
theorem dX10_reasonBeside_0 : decode cX10_reasonBeside 0 = .ok (.iload_n 1, 1) := by decide +kernel
theorem dX10_reasonBeside_1 : decode cX10_reasonBeside 1 = .ok (.iconst 1, 1) := by decide +kernel
theorem dX10_reasonBeside_2 : decode cX10_reasonBeside 2 = .ok (.if_icmp .ne 18, 3) := by decide +kernel
theorem dX10_reasonBeside_5 : decode cX10_reasonBeside 5 = .ok (.aload_n 0, 1) := by decide +kernel
theorem dX10_reasonBeside_6 : decode cX10_reasonBeside 6 = .ok (.iload_n 2, 1) := by decide +kernel
theorem dX10_reasonBeside_7 : decode cX10_reasonBeside 7 = .ok (.iconst 0, 1) := by decide +kernel
theorem dX10_reasonBeside_8 : decode cX10_reasonBeside 8 = .ok (.invokevirtual 87, 3) := by decide +kernel
theorem dX10_reasonBeside_11 : decode cX10_reasonBeside 11 = .ok (.ifCond .ne 7, 3) := by decide +kernel
theorem dX10_reasonBeside_14 : decode cX10_reasonBeside 14 = .ok (.iconst 2, 1) := by decide +kernel
theorem dX10_reasonBeside_15 : decode cX10_reasonBeside 15 = .ok (.goto 4, 3) := by decide +kernel
theorem dX10_reasonBeside_18 : decode cX10_reasonBeside 18 = .ok (.iconst 0, 1) := by decide +kernel
theorem dX10_reasonBeside_19 : decode cX10_reasonBeside 19 = .ok (.ireturn, 1) := by decide +kernel
theorem dX10_reasonBeside_20 : decode cX10_reasonBeside 20 = .ok (.iload_n 1, 1) := by decide +kernel
theorem dX10_reasonBeside_21 : decode cX10_reasonBeside 21 = .ok (.iconst 2, 1) := by decide +kernel
theorem dX10_reasonBeside_22 : decode cX10_reasonBeside 22 = .ok (.if_icmp .ne 23, 3) := by decide +kernel
theorem dX10_reasonBeside_25 : decode cX10_reasonBeside 25 = .ok (.aload_n 0, 1) := by decide +kernel
theorem dX10_reasonBeside_26 : decode cX10_reasonBeside 26 = .ok (.iload_n 2, 1) := by decide +kernel
theorem dX10_reasonBeside_27 : decode cX10_reasonBeside 27 = .ok (.iconst 1, 1) := by decide +kernel
theorem dX10_reasonBeside_28 : decode cX10_reasonBeside 28 = .ok (.invokevirtual 87, 3) := by decide +kernel
theorem dX10_reasonBeside_31 : decode cX10_reasonBeside 31 = .ok (.iload_n 3, 1) := by decide +kernel
theorem dX10_reasonBeside_32 : decode cX10_reasonBeside 32 = .ok (.iadd, 1) := by decide +kernel
theorem dX10_reasonBeside_33 : decode cX10_reasonBeside 33 = .ok (.sipush 300, 3) := by decide +kernel
theorem dX10_reasonBeside_36 : decode cX10_reasonBeside 36 = .ok (.if_icmp .le 7, 3) := by decide +kernel
theorem dX10_reasonBeside_39 : decode cX10_reasonBeside 39 = .ok (.iconst 3, 1) := by decide +kernel
theorem dX10_reasonBeside_40 : decode cX10_reasonBeside 40 = .ok (.goto 4, 3) := by decide +kernel
theorem dX10_reasonBeside_43 : decode cX10_reasonBeside 43 = .ok (.iconst 0, 1) := by decide +kernel
theorem dX10_reasonBeside_44 : decode cX10_reasonBeside 44 = .ok (.ireturn, 1) := by decide +kernel
theorem dX10_reasonBeside_45 : decode cX10_reasonBeside 45 = .ok (.aload_n 0, 1) := by decide +kernel
theorem dX10_reasonBeside_46 : decode cX10_reasonBeside 46 = .ok (.iload_n 2, 1) := by decide +kernel
theorem dX10_reasonBeside_47 : decode cX10_reasonBeside 47 = .ok (.invokevirtual 202, 3) := by decide +kernel
theorem dX10_reasonBeside_50 : decode cX10_reasonBeside 50 = .ok (.ifCond .eq 7, 3) := by decide +kernel
theorem dX10_reasonBeside_53 : decode cX10_reasonBeside 53 = .ok (.iconst 4, 1) := by decide +kernel
theorem dX10_reasonBeside_54 : decode cX10_reasonBeside 54 = .ok (.goto 4, 3) := by decide +kernel
theorem dX10_reasonBeside_57 : decode cX10_reasonBeside 57 = .ok (.iconst 0, 1) := by decide +kernel
theorem dX10_reasonBeside_58 : decode cX10_reasonBeside 58 = .ok (.ireturn, 1) := by decide +kernel
theorem dX10_reasonOf_0 : decode cX10_reasonOf 0 = .ok (.aload_n 0, 1) := by decide +kernel
theorem dX10_reasonOf_1 : decode cX10_reasonOf 1 = .ok (.iload_n 1, 1) := by decide +kernel
theorem dX10_reasonOf_2 : decode cX10_reasonOf 2 = .ok (.iload_n 2, 1) := by decide +kernel
theorem dX10_reasonOf_3 : decode cX10_reasonOf 3 = .ok (.iload_n 3, 1) := by decide +kernel
theorem dX10_reasonOf_4 : decode cX10_reasonOf 4 = .ok (.invokevirtual 205, 3) := by decide +kernel
theorem dX10_reasonOf_7 : decode cX10_reasonOf 7 = .ok (.aload_n 0, 1) := by decide +kernel
theorem dX10_reasonOf_8 : decode cX10_reasonOf 8 = .ok (.getfield 7, 3) := by decide +kernel
theorem dX10_reasonOf_11 : decode cX10_reasonOf 11 = .ok (.bipush 11, 2) := by decide +kernel
theorem dX10_reasonOf_13 : decode cX10_reasonOf 13 = .ok (.iaload, 1) := by decide +kernel
theorem dX10_reasonOf_14 : decode cX10_reasonOf 14 = .ok (.if_icmp .le 7, 3) := by decide +kernel
theorem dX10_reasonOf_17 : decode cX10_reasonOf 17 = .ok (.iconst 1, 1) := by decide +kernel
theorem dX10_reasonOf_18 : decode cX10_reasonOf 18 = .ok (.goto 10, 3) := by decide +kernel
theorem dX10_reasonOf_21 : decode cX10_reasonOf 21 = .ok (.aload_n 0, 1) := by decide +kernel
theorem dX10_reasonOf_22 : decode cX10_reasonOf 22 = .ok (.iload_n 1, 1) := by decide +kernel
theorem dX10_reasonOf_23 : decode cX10_reasonOf 23 = .ok (.iload_n 2, 1) := by decide +kernel
theorem dX10_reasonOf_24 : decode cX10_reasonOf 24 = .ok (.iload_n 3, 1) := by decide +kernel
theorem dX10_reasonOf_25 : decode cX10_reasonOf 25 = .ok (.invokevirtual 209, 3) := by decide +kernel
theorem dX10_reasonOf_28 : decode cX10_reasonOf 28 = .ok (.ireturn, 1) := by decide +kernel
theorem dX10_patches_0 : decode cX10_patches 0 = .ok (.aload_n 0, 1) := by decide +kernel
theorem dX10_patches_1 : decode cX10_patches 1 = .ok (.iload_n 2, 1) := by decide +kernel
theorem dX10_patches_2 : decode cX10_patches 2 = .ok (.iconst 0, 1) := by decide +kernel
theorem dX10_patches_3 : decode cX10_patches 3 = .ok (.iconst 0, 1) := by decide +kernel
theorem dX10_patches_4 : decode cX10_patches 4 = .ok (.invokevirtual 195, 3) := by decide +kernel
theorem dX10_patches_7 : decode cX10_patches 7 = .ok (.iload_n 1, 1) := by decide +kernel
theorem dX10_patches_8 : decode cX10_patches 8 = .ok (.iconst 2, 1) := by decide +kernel
theorem dX10_patches_9 : decode cX10_patches 9 = .ok (.if_icmp .ne 17, 3) := by decide +kernel
theorem dX10_patches_12 : decode cX10_patches 12 = .ok (.aload_n 0, 1) := by decide +kernel
theorem dX10_patches_13 : decode cX10_patches 13 = .ok (.iload_n 2, 1) := by decide +kernel
theorem dX10_patches_14 : decode cX10_patches 14 = .ok (.iconst 1, 1) := by decide +kernel
theorem dX10_patches_15 : decode cX10_patches 15 = .ok (.aload_n 0, 1) := by decide +kernel
theorem dX10_patches_16 : decode cX10_patches 16 = .ok (.iload_n 2, 1) := by decide +kernel
theorem dX10_patches_17 : decode cX10_patches 17 = .ok (.iconst 1, 1) := by decide +kernel
theorem dX10_patches_18 : decode cX10_patches 18 = .ok (.invokevirtual 87, 3) := by decide +kernel
theorem dX10_patches_21 : decode cX10_patches 21 = .ok (.iload_n 3, 1) := by decide +kernel
theorem dX10_patches_22 : decode cX10_patches 22 = .ok (.iadd, 1) := by decide +kernel
theorem dX10_patches_23 : decode cX10_patches 23 = .ok (.invokevirtual 195, 3) := by decide +kernel
theorem dX10_patches_26 : decode cX10_patches 26 = .ok (.iload_n 1, 1) := by decide +kernel
theorem dX10_patches_27 : decode cX10_patches 27 = .ok (.iconst 3, 1) := by decide +kernel
theorem dX10_patches_28 : decode cX10_patches 28 = .ok (.if_icmp .eq 4, 3) := by decide +kernel
theorem dX10_patches_31 : decode cX10_patches 31 = .ok (.return_, 1) := by decide +kernel
theorem dX10_patches_32 : decode cX10_patches 32 = .ok (.aload_n 0, 1) := by decide +kernel
theorem dX10_patches_33 : decode cX10_patches 33 = .ok (.iload_n 2, 1) := by decide +kernel
theorem dX10_patches_34 : decode cX10_patches 34 = .ok (.iconst 1, 1) := by decide +kernel
theorem dX10_patches_35 : decode cX10_patches 35 = .ok (.iconst 0, 1) := by decide +kernel
theorem dX10_patches_36 : decode cX10_patches 36 = .ok (.invokevirtual 195, 3) := by decide +kernel
theorem dX10_patches_39 : decode cX10_patches 39 = .ok (.aload_n 0, 1) := by decide +kernel
theorem dX10_patches_40 : decode cX10_patches 40 = .ok (.iload_n 2, 1) := by decide +kernel
theorem dX10_patches_41 : decode cX10_patches 41 = .ok (.iconst 2, 1) := by decide +kernel
theorem dX10_patches_42 : decode cX10_patches 42 = .ok (.iconst 1, 1) := by decide +kernel
theorem dX10_patches_43 : decode cX10_patches 43 = .ok (.invokevirtual 195, 3) := by decide +kernel
theorem dX10_patches_46 : decode cX10_patches 46 = .ok (.aload_n 0, 1) := by decide +kernel
theorem dX10_patches_47 : decode cX10_patches 47 = .ok (.getfield 22, 3) := by decide +kernel
theorem dX10_patches_50 : decode cX10_patches 50 = .ok (.iload_n 2, 1) := by decide +kernel
theorem dX10_patches_51 : decode cX10_patches 51 = .ok (.lconst 0, 1) := by decide +kernel
theorem dX10_patches_52 : decode cX10_patches 52 = .ok (.lastore, 1) := by decide +kernel
theorem dX10_patches_53 : decode cX10_patches 53 = .ok (.return_, 1) := by decide +kernel
theorem dX10_yearsPatched_0 : decode cX10_yearsPatched 0 = .ok (.aload_n 0, 1) := by decide +kernel
theorem dX10_yearsPatched_1 : decode cX10_yearsPatched 1 = .ok (.iload_n 2, 1) := by decide +kernel
theorem dX10_yearsPatched_2 : decode cX10_yearsPatched 2 = .ok (.iconst 0, 1) := by decide +kernel
theorem dX10_yearsPatched_3 : decode cX10_yearsPatched 3 = .ok (.invokevirtual 87, 3) := by decide +kernel
theorem dX10_yearsPatched_6 : decode cX10_yearsPatched 6 = .ok (.istore 4, 2) := by decide +kernel
theorem dX10_yearsPatched_8 : decode cX10_yearsPatched 8 = .ok (.aload_n 0, 1) := by decide +kernel
theorem dX10_yearsPatched_9 : decode cX10_yearsPatched 9 = .ok (.iload_n 2, 1) := by decide +kernel
theorem dX10_yearsPatched_10 : decode cX10_yearsPatched 10 = .ok (.iconst 1, 1) := by decide +kernel
theorem dX10_yearsPatched_11 : decode cX10_yearsPatched 11 = .ok (.invokevirtual 87, 3) := by decide +kernel
theorem dX10_yearsPatched_14 : decode cX10_yearsPatched 14 = .ok (.istore 5, 2) := by decide +kernel
theorem dX10_yearsPatched_16 : decode cX10_yearsPatched 16 = .ok (.aload_n 0, 1) := by decide +kernel
theorem dX10_yearsPatched_17 : decode cX10_yearsPatched 17 = .ok (.iload_n 2, 1) := by decide +kernel
theorem dX10_yearsPatched_18 : decode cX10_yearsPatched 18 = .ok (.iconst 2, 1) := by decide +kernel
theorem dX10_yearsPatched_19 : decode cX10_yearsPatched 19 = .ok (.invokevirtual 87, 3) := by decide +kernel
theorem dX10_yearsPatched_22 : decode cX10_yearsPatched 22 = .ok (.istore 6, 2) := by decide +kernel
theorem dX10_yearsPatched_24 : decode cX10_yearsPatched 24 = .ok (.aload_n 0, 1) := by decide +kernel
theorem dX10_yearsPatched_25 : decode cX10_yearsPatched 25 = .ok (.getfield 22, 3) := by decide +kernel
theorem dX10_yearsPatched_28 : decode cX10_yearsPatched 28 = .ok (.iload_n 2, 1) := by decide +kernel
theorem dX10_yearsPatched_29 : decode cX10_yearsPatched 29 = .ok (.laload, 1) := by decide +kernel
theorem dX10_yearsPatched_30 : decode cX10_yearsPatched 30 = .ok (.lstore 7, 2) := by decide +kernel
theorem dX10_yearsPatched_32 : decode cX10_yearsPatched 32 = .ok (.aload_n 0, 1) := by decide +kernel
theorem dX10_yearsPatched_33 : decode cX10_yearsPatched 33 = .ok (.iload_n 1, 1) := by decide +kernel
theorem dX10_yearsPatched_34 : decode cX10_yearsPatched 34 = .ok (.iload_n 2, 1) := by decide +kernel
theorem dX10_yearsPatched_35 : decode cX10_yearsPatched 35 = .ok (.iload_n 3, 1) := by decide +kernel
theorem dX10_yearsPatched_36 : decode cX10_yearsPatched 36 = .ok (.invokevirtual 212, 3) := by decide +kernel
theorem dX10_yearsPatched_39 : decode cX10_yearsPatched 39 = .ok (.aload_n 0, 1) := by decide +kernel
theorem dX10_yearsPatched_40 : decode cX10_yearsPatched 40 = .ok (.iload_n 2, 1) := by decide +kernel
theorem dX10_yearsPatched_41 : decode cX10_yearsPatched 41 = .ok (.invokevirtual 186, 3) := by decide +kernel
theorem dX10_yearsPatched_44 : decode cX10_yearsPatched 44 = .ok (.istore 9, 2) := by decide +kernel
theorem dX10_yearsPatched_46 : decode cX10_yearsPatched 46 = .ok (.aload_n 0, 1) := by decide +kernel
theorem dX10_yearsPatched_47 : decode cX10_yearsPatched 47 = .ok (.iload_n 2, 1) := by decide +kernel
theorem dX10_yearsPatched_48 : decode cX10_yearsPatched 48 = .ok (.iconst 0, 1) := by decide +kernel
theorem dX10_yearsPatched_49 : decode cX10_yearsPatched 49 = .ok (.iload 4, 2) := by decide +kernel
theorem dX10_yearsPatched_51 : decode cX10_yearsPatched 51 = .ok (.invokevirtual 195, 3) := by decide +kernel
theorem dX10_yearsPatched_54 : decode cX10_yearsPatched 54 = .ok (.aload_n 0, 1) := by decide +kernel
theorem dX10_yearsPatched_55 : decode cX10_yearsPatched 55 = .ok (.iload_n 2, 1) := by decide +kernel
theorem dX10_yearsPatched_56 : decode cX10_yearsPatched 56 = .ok (.iconst 1, 1) := by decide +kernel
theorem dX10_yearsPatched_57 : decode cX10_yearsPatched 57 = .ok (.iload 5, 2) := by decide +kernel
theorem dX10_yearsPatched_59 : decode cX10_yearsPatched 59 = .ok (.invokevirtual 195, 3) := by decide +kernel
theorem dX10_yearsPatched_62 : decode cX10_yearsPatched 62 = .ok (.aload_n 0, 1) := by decide +kernel
theorem dX10_yearsPatched_63 : decode cX10_yearsPatched 63 = .ok (.iload_n 2, 1) := by decide +kernel
theorem dX10_yearsPatched_64 : decode cX10_yearsPatched 64 = .ok (.iconst 2, 1) := by decide +kernel
theorem dX10_yearsPatched_65 : decode cX10_yearsPatched 65 = .ok (.iload 6, 2) := by decide +kernel
theorem dX10_yearsPatched_67 : decode cX10_yearsPatched 67 = .ok (.invokevirtual 195, 3) := by decide +kernel
theorem dX10_yearsPatched_70 : decode cX10_yearsPatched 70 = .ok (.aload_n 0, 1) := by decide +kernel
theorem dX10_yearsPatched_71 : decode cX10_yearsPatched 71 = .ok (.getfield 22, 3) := by decide +kernel
theorem dX10_yearsPatched_74 : decode cX10_yearsPatched 74 = .ok (.iload_n 2, 1) := by decide +kernel
theorem dX10_yearsPatched_75 : decode cX10_yearsPatched 75 = .ok (.lload 7, 2) := by decide +kernel
theorem dX10_yearsPatched_77 : decode cX10_yearsPatched 77 = .ok (.lastore, 1) := by decide +kernel
theorem dX10_yearsPatched_78 : decode cX10_yearsPatched 78 = .ok (.iload 9, 2) := by decide +kernel
theorem dX10_yearsPatched_80 : decode cX10_yearsPatched 80 = .ok (.ireturn, 1) := by decide +kernel
theorem dX10_kindOf_0 : decode cX10_kindOf 0 = .ok (.iload_n 0, 1) := by decide +kernel
theorem dX10_kindOf_1 : decode cX10_kindOf 1 = .ok (.sipush 1000, 3) := by decide +kernel
theorem dX10_kindOf_4 : decode cX10_kindOf 4 = .ok (.idiv, 1) := by decide +kernel
theorem dX10_kindOf_5 : decode cX10_kindOf 5 = .ok (.ireturn, 1) := by decide +kernel
theorem dX10_does_0 : decode cX10_does 0 = .ok (.aload_n 0, 1) := by decide +kernel
theorem dX10_does_1 : decode cX10_does 1 = .ok (.iload_n 1, 1) := by decide +kernel
theorem dX10_does_2 : decode cX10_does 2 = .ok (.invokestatic 215, 3) := by decide +kernel
theorem dX10_does_5 : decode cX10_does 5 = .ok (.iload_n 2, 1) := by decide +kernel
theorem dX10_does_6 : decode cX10_does 6 = .ok (.iload_n 1, 1) := by decide +kernel
theorem dX10_does_7 : decode cX10_does 7 = .ok (.sipush 1000, 3) := by decide +kernel
theorem dX10_does_10 : decode cX10_does 10 = .ok (.irem, 1) := by decide +kernel
theorem dX10_does_11 : decode cX10_does 11 = .ok (.invokevirtual 209, 3) := by decide +kernel
theorem dX10_does_14 : decode cX10_does 14 = .ok (.ifCond .ne 25, 3) := by decide +kernel
theorem dX10_does_17 : decode cX10_does 17 = .ok (.aload_n 0, 1) := by decide +kernel
theorem dX10_does_18 : decode cX10_does 18 = .ok (.iload_n 1, 1) := by decide +kernel
theorem dX10_does_19 : decode cX10_does 19 = .ok (.invokestatic 215, 3) := by decide +kernel
theorem dX10_does_22 : decode cX10_does 22 = .ok (.iload_n 2, 1) := by decide +kernel
theorem dX10_does_23 : decode cX10_does 23 = .ok (.iload_n 1, 1) := by decide +kernel
theorem dX10_does_24 : decode cX10_does 24 = .ok (.sipush 1000, 3) := by decide +kernel
theorem dX10_does_27 : decode cX10_does 27 = .ok (.irem, 1) := by decide +kernel
theorem dX10_does_28 : decode cX10_does 28 = .ok (.invokevirtual 218, 3) := by decide +kernel
theorem dX10_does_31 : decode cX10_does 31 = .ok (.iload_n 3, 1) := by decide +kernel
theorem dX10_does_32 : decode cX10_does 32 = .ok (.if_icmp .le 7, 3) := by decide +kernel
theorem dX10_does_35 : decode cX10_does 35 = .ok (.iconst 1, 1) := by decide +kernel
theorem dX10_does_36 : decode cX10_does 36 = .ok (.goto 4, 3) := by decide +kernel
theorem dX10_does_39 : decode cX10_does 39 = .ok (.iconst 0, 1) := by decide +kernel
theorem dX10_does_40 : decode cX10_does 40 = .ok (.ireturn, 1) := by decide +kernel
theorem dX10_cheapestOf_0 : decode cX10_cheapestOf 0 = .ok (.aload_n 0, 1) := by decide +kernel
theorem dX10_cheapestOf_1 : decode cX10_cheapestOf 1 = .ok (.iload_n 1, 1) := by decide +kernel
theorem dX10_cheapestOf_2 : decode cX10_cheapestOf 2 = .ok (.invokevirtual 186, 3) := by decide +kernel
theorem dX10_cheapestOf_5 : decode cX10_cheapestOf 5 = .ok (.iload_n 2, 1) := by decide +kernel
theorem dX10_cheapestOf_6 : decode cX10_cheapestOf 6 = .ok (.if_icmp .le 5, 3) := by decide +kernel
theorem dX10_cheapestOf_9 : decode cX10_cheapestOf 9 = .ok (.iconst 0, 1) := by decide +kernel
theorem dX10_cheapestOf_10 : decode cX10_cheapestOf 10 = .ok (.ireturn, 1) := by decide +kernel
theorem dX10_cheapestOf_11 : decode cX10_cheapestOf 11 = .ok (.iconst (-1), 1) := by decide +kernel
theorem dX10_cheapestOf_12 : decode cX10_cheapestOf 12 = .ok (.istore_n 3, 1) := by decide +kernel
theorem dX10_cheapestOf_13 : decode cX10_cheapestOf 13 = .ok (.iconst 0, 1) := by decide +kernel
theorem dX10_cheapestOf_14 : decode cX10_cheapestOf 14 = .ok (.istore 4, 2) := by decide +kernel
theorem dX10_cheapestOf_16 : decode cX10_cheapestOf 16 = .ok (.iconst 0, 1) := by decide +kernel
theorem dX10_cheapestOf_17 : decode cX10_cheapestOf 17 = .ok (.istore 5, 2) := by decide +kernel
theorem dX10_cheapestOf_19 : decode cX10_cheapestOf 19 = .ok (.iload 5, 2) := by decide +kernel
theorem dX10_cheapestOf_21 : decode cX10_cheapestOf 21 = .ok (.bipush 12, 2) := by decide +kernel
theorem dX10_cheapestOf_23 : decode cX10_cheapestOf 23 = .ok (.if_icmp .ge 98, 3) := by decide +kernel
theorem dX10_cheapestOf_26 : decode cX10_cheapestOf 26 = .ok (.iload 5, 2) := by decide +kernel
theorem dX10_cheapestOf_28 : decode cX10_cheapestOf 28 = .ok (.ifCond .ne 9, 3) := by decide +kernel
theorem dX10_cheapestOf_31 : decode cX10_cheapestOf 31 = .ok (.sipush 1000, 3) := by decide +kernel
theorem dX10_cheapestOf_34 : decode cX10_cheapestOf 34 = .ok (.goto 25, 3) := by decide +kernel
theorem dX10_cheapestOf_37 : decode cX10_cheapestOf 37 = .ok (.iload 5, 2) := by decide +kernel
theorem dX10_cheapestOf_39 : decode cX10_cheapestOf 39 = .ok (.bipush 11, 2) := by decide +kernel
theorem dX10_cheapestOf_41 : decode cX10_cheapestOf 41 = .ok (.if_icmp .ne 9, 3) := by decide +kernel
theorem dX10_cheapestOf_44 : decode cX10_cheapestOf 44 = .ok (.sipush 3000, 3) := by decide +kernel
theorem dX10_cheapestOf_47 : decode cX10_cheapestOf 47 = .ok (.goto 12, 3) := by decide +kernel
theorem dX10_cheapestOf_50 : decode cX10_cheapestOf 50 = .ok (.sipush 2000, 3) := by decide +kernel
theorem dX10_cheapestOf_53 : decode cX10_cheapestOf 53 = .ok (.bipush 10, 2) := by decide +kernel
theorem dX10_cheapestOf_55 : decode cX10_cheapestOf 55 = .ok (.iload 5, 2) := by decide +kernel
theorem dX10_cheapestOf_57 : decode cX10_cheapestOf 57 = .ok (.imul, 1) := by decide +kernel
theorem dX10_cheapestOf_58 : decode cX10_cheapestOf 58 = .ok (.iadd, 1) := by decide +kernel
theorem dX10_cheapestOf_59 : decode cX10_cheapestOf 59 = .ok (.istore 6, 2) := by decide +kernel
theorem dX10_cheapestOf_61 : decode cX10_cheapestOf 61 = .ok (.aload_n 0, 1) := by decide +kernel
theorem dX10_cheapestOf_62 : decode cX10_cheapestOf 62 = .ok (.iload 6, 2) := by decide +kernel
theorem dX10_cheapestOf_64 : decode cX10_cheapestOf 64 = .ok (.iload_n 1, 1) := by decide +kernel
theorem dX10_cheapestOf_65 : decode cX10_cheapestOf 65 = .ok (.iload_n 2, 1) := by decide +kernel
theorem dX10_cheapestOf_66 : decode cX10_cheapestOf 66 = .ok (.invokevirtual 221, 3) := by decide +kernel
theorem dX10_cheapestOf_69 : decode cX10_cheapestOf 69 = .ok (.ifCond .ne 6, 3) := by decide +kernel
theorem dX10_cheapestOf_72 : decode cX10_cheapestOf 72 = .ok (.goto 43, 3) := by decide +kernel
theorem dX10_cheapestOf_75 : decode cX10_cheapestOf 75 = .ok (.aload_n 0, 1) := by decide +kernel
theorem dX10_cheapestOf_76 : decode cX10_cheapestOf 76 = .ok (.iload 6, 2) := by decide +kernel
theorem dX10_cheapestOf_78 : decode cX10_cheapestOf 78 = .ok (.invokestatic 215, 3) := by decide +kernel
theorem dX10_cheapestOf_81 : decode cX10_cheapestOf 81 = .ok (.iload_n 1, 1) := by decide +kernel
theorem dX10_cheapestOf_82 : decode cX10_cheapestOf 82 = .ok (.iload 6, 2) := by decide +kernel
theorem dX10_cheapestOf_84 : decode cX10_cheapestOf 84 = .ok (.sipush 1000, 3) := by decide +kernel
theorem dX10_cheapestOf_87 : decode cX10_cheapestOf 87 = .ok (.irem, 1) := by decide +kernel
theorem dX10_cheapestOf_88 : decode cX10_cheapestOf 88 = .ok (.invokevirtual 205, 3) := by decide +kernel
theorem dX10_cheapestOf_91 : decode cX10_cheapestOf 91 = .ok (.istore 7, 2) := by decide +kernel
theorem dX10_cheapestOf_93 : decode cX10_cheapestOf 93 = .ok (.iload_n 3, 1) := by decide +kernel
theorem dX10_cheapestOf_94 : decode cX10_cheapestOf 94 = .ok (.iconst (-1), 1) := by decide +kernel
theorem dX10_cheapestOf_95 : decode cX10_cheapestOf 95 = .ok (.if_icmp .eq 13, 3) := by decide +kernel
theorem dX10_cheapestOf_98 : decode cX10_cheapestOf 98 = .ok (.iload 7, 2) := by decide +kernel
theorem dX10_cheapestOf_100 : decode cX10_cheapestOf 100 = .ok (.iload 4, 2) := by decide +kernel
theorem dX10_cheapestOf_102 : decode cX10_cheapestOf 102 = .ok (.if_icmp .lt 6, 3) := by decide +kernel
theorem dX10_cheapestOf_105 : decode cX10_cheapestOf 105 = .ok (.goto 10, 3) := by decide +kernel
theorem dX10_cheapestOf_108 : decode cX10_cheapestOf 108 = .ok (.iload 6, 2) := by decide +kernel
theorem dX10_cheapestOf_110 : decode cX10_cheapestOf 110 = .ok (.istore_n 3, 1) := by decide +kernel
theorem dX10_cheapestOf_111 : decode cX10_cheapestOf 111 = .ok (.iload 7, 2) := by decide +kernel
theorem dX10_cheapestOf_113 : decode cX10_cheapestOf 113 = .ok (.istore 4, 2) := by decide +kernel
theorem dX10_cheapestOf_115 : decode cX10_cheapestOf 115 = .ok (.iinc 5 1, 3) := by decide +kernel
theorem dX10_cheapestOf_118 : decode cX10_cheapestOf 118 = .ok (.goto (-99), 3) := by decide +kernel
theorem dX10_cheapestOf_121 : decode cX10_cheapestOf 121 = .ok (.iload_n 3, 1) := by decide +kernel
theorem dX10_cheapestOf_122 : decode cX10_cheapestOf 122 = .ok (.ireturn, 1) := by decide +kernel
theorem dX10_appendWord_0 : decode cX10_appendWord 0 = .ok (.bipush 24, 2) := by decide +kernel
theorem dX10_appendWord_2 : decode cX10_appendWord 2 = .ok (.istore_n 2, 1) := by decide +kernel
theorem dX10_appendWord_3 : decode cX10_appendWord 3 = .ok (.iload_n 2, 1) := by decide +kernel
theorem dX10_appendWord_4 : decode cX10_appendWord 4 = .ok (.ifCond .lt 35, 3) := by decide +kernel
theorem dX10_appendWord_7 : decode cX10_appendWord 7 = .ok (.aload_n 0, 1) := by decide +kernel
theorem dX10_appendWord_8 : decode cX10_appendWord 8 = .ok (.getfield 35, 3) := by decide +kernel
theorem dX10_appendWord_11 : decode cX10_appendWord 11 = .ok (.aload_n 0, 1) := by decide +kernel
theorem dX10_appendWord_12 : decode cX10_appendWord 12 = .ok (.getfield 225, 3) := by decide +kernel
theorem dX10_appendWord_15 : decode cX10_appendWord 15 = .ok (.iload_n 1, 1) := by decide +kernel
theorem dX10_appendWord_16 : decode cX10_appendWord 16 = .ok (.iload_n 2, 1) := by decide +kernel
theorem dX10_appendWord_17 : decode cX10_appendWord 17 = .ok (.ishr, 1) := by decide +kernel
theorem dX10_appendWord_18 : decode cX10_appendWord 18 = .ok (.sipush 255, 3) := by decide +kernel
theorem dX10_appendWord_21 : decode cX10_appendWord 21 = .ok (.iand, 1) := by decide +kernel
theorem dX10_appendWord_22 : decode cX10_appendWord 22 = .ok (.iastore, 1) := by decide +kernel
theorem dX10_appendWord_23 : decode cX10_appendWord 23 = .ok (.aload_n 0, 1) := by decide +kernel
theorem dX10_appendWord_24 : decode cX10_appendWord 24 = .ok (.dup, 1) := by decide +kernel
theorem dX10_appendWord_25 : decode cX10_appendWord 25 = .ok (.getfield 225, 3) := by decide +kernel
theorem dX10_appendWord_28 : decode cX10_appendWord 28 = .ok (.iconst 1, 1) := by decide +kernel
theorem dX10_appendWord_29 : decode cX10_appendWord 29 = .ok (.iadd, 1) := by decide +kernel
theorem dX10_appendWord_30 : decode cX10_appendWord 30 = .ok (.putfield 225, 3) := by decide +kernel
theorem dX10_appendWord_33 : decode cX10_appendWord 33 = .ok (.iinc 2 (-8), 3) := by decide +kernel
theorem dX10_appendWord_36 : decode cX10_appendWord 36 = .ok (.goto (-33), 3) := by decide +kernel
theorem dX10_appendWord_39 : decode cX10_appendWord 39 = .ok (.return_, 1) := by decide +kernel
theorem dX10_appendInput_0 : decode cX10_appendInput 0 = .ok (.aload_n 0, 1) := by decide +kernel
theorem dX10_appendInput_1 : decode cX10_appendInput 1 = .ok (.iconst 0, 1) := by decide +kernel
theorem dX10_appendInput_2 : decode cX10_appendInput 2 = .ok (.putfield 54, 3) := by decide +kernel
theorem dX10_appendInput_5 : decode cX10_appendInput 5 = .ok (.aload_n 0, 1) := by decide +kernel
theorem dX10_appendInput_6 : decode cX10_appendInput 6 = .ok (.getfield 225, 3) := by decide +kernel
theorem dX10_appendInput_9 : decode cX10_appendInput 9 = .ok (.bipush 20, 2) := by decide +kernel
theorem dX10_appendInput_11 : decode cX10_appendInput 11 = .ok (.iadd, 1) := by decide +kernel
theorem dX10_appendInput_12 : decode cX10_appendInput 12 = .ok (.sipush 700, 3) := by decide +kernel
theorem dX10_appendInput_15 : decode cX10_appendInput 15 = .ok (.if_icmp .le 5, 3) := by decide +kernel
theorem dX10_appendInput_18 : decode cX10_appendInput 18 = .ok (.iconst (-1), 1) := by decide +kernel
theorem dX10_appendInput_19 : decode cX10_appendInput 19 = .ok (.ireturn, 1) := by decide +kernel
theorem dX10_appendInput_20 : decode cX10_appendInput 20 = .ok (.aload_n 0, 1) := by decide +kernel
theorem dX10_appendInput_21 : decode cX10_appendInput 21 = .ok (.iload_n 1, 1) := by decide +kernel
theorem dX10_appendInput_22 : decode cX10_appendInput 22 = .ok (.invokevirtual 228, 3) := by decide +kernel
theorem dX10_appendInput_25 : decode cX10_appendInput 25 = .ok (.aload_n 0, 1) := by decide +kernel
theorem dX10_appendInput_26 : decode cX10_appendInput 26 = .ok (.iload_n 2, 1) := by decide +kernel
theorem dX10_appendInput_27 : decode cX10_appendInput 27 = .ok (.invokevirtual 228, 3) := by decide +kernel
theorem dX10_appendInput_30 : decode cX10_appendInput 30 = .ok (.aload_n 0, 1) := by decide +kernel
theorem dX10_appendInput_31 : decode cX10_appendInput 31 = .ok (.iload_n 3, 1) := by decide +kernel
theorem dX10_appendInput_32 : decode cX10_appendInput 32 = .ok (.invokevirtual 228, 3) := by decide +kernel
theorem dX10_appendInput_35 : decode cX10_appendInput 35 = .ok (.aload_n 0, 1) := by decide +kernel
theorem dX10_appendInput_36 : decode cX10_appendInput 36 = .ok (.iload 4, 2) := by decide +kernel
theorem dX10_appendInput_38 : decode cX10_appendInput 38 = .ok (.invokevirtual 228, 3) := by decide +kernel
theorem dX10_appendInput_41 : decode cX10_appendInput 41 = .ok (.aload_n 0, 1) := by decide +kernel
theorem dX10_appendInput_42 : decode cX10_appendInput 42 = .ok (.iload 5, 2) := by decide +kernel
theorem dX10_appendInput_44 : decode cX10_appendInput 44 = .ok (.invokevirtual 228, 3) := by decide +kernel
theorem dX10_appendInput_47 : decode cX10_appendInput 47 = .ok (.aload_n 0, 1) := by decide +kernel
theorem dX10_appendInput_48 : decode cX10_appendInput 48 = .ok (.getfield 225, 3) := by decide +kernel
theorem dX10_appendInput_51 : decode cX10_appendInput 51 = .ok (.ireturn, 1) := by decide +kernel
theorem dX10_truncateInput_0 : decode cX10_truncateInput 0 = .ok (.aload_n 0, 1) := by decide +kernel
theorem dX10_truncateInput_1 : decode cX10_truncateInput 1 = .ok (.iconst 0, 1) := by decide +kernel
theorem dX10_truncateInput_2 : decode cX10_truncateInput 2 = .ok (.putfield 54, 3) := by decide +kernel
theorem dX10_truncateInput_5 : decode cX10_truncateInput 5 = .ok (.iload_n 1, 1) := by decide +kernel
theorem dX10_truncateInput_6 : decode cX10_truncateInput 6 = .ok (.i2l, 1) := by decide +kernel
theorem dX10_truncateInput_7 : decode cX10_truncateInput 7 = .ok (.lconst 0, 1) := by decide +kernel
theorem dX10_truncateInput_8 : decode cX10_truncateInput 8 = .ok (.aload_n 0, 1) := by decide +kernel
theorem dX10_truncateInput_9 : decode cX10_truncateInput 9 = .ok (.getfield 225, 3) := by decide +kernel
theorem dX10_truncateInput_12 : decode cX10_truncateInput 12 = .ok (.i2l, 1) := by decide +kernel
theorem dX10_truncateInput_13 : decode cX10_truncateInput 13 = .ok (.invokestatic 129, 3) := by decide +kernel
theorem dX10_truncateInput_16 : decode cX10_truncateInput 16 = .ok (.ifCond .ne 5, 3) := by decide +kernel
theorem dX10_truncateInput_19 : decode cX10_truncateInput 19 = .ok (.iconst 0, 1) := by decide +kernel
theorem dX10_truncateInput_20 : decode cX10_truncateInput 20 = .ok (.ireturn, 1) := by decide +kernel
theorem dX10_truncateInput_21 : decode cX10_truncateInput 21 = .ok (.aload_n 0, 1) := by decide +kernel
theorem dX10_truncateInput_22 : decode cX10_truncateInput 22 = .ok (.iload_n 1, 1) := by decide +kernel
theorem dX10_truncateInput_23 : decode cX10_truncateInput 23 = .ok (.putfield 225, 3) := by decide +kernel
theorem dX10_truncateInput_26 : decode cX10_truncateInput 26 = .ok (.iconst 1, 1) := by decide +kernel
theorem dX10_truncateInput_27 : decode cX10_truncateInput 27 = .ok (.ireturn, 1) := by decide +kernel
theorem dX10_byteAt_0 : decode cX10_byteAt 0 = .ok (.iload_n 1, 1) := by decide +kernel
theorem dX10_byteAt_1 : decode cX10_byteAt 1 = .ok (.aload_n 0, 1) := by decide +kernel
theorem dX10_byteAt_2 : decode cX10_byteAt 2 = .ok (.getfield 225, 3) := by decide +kernel
theorem dX10_byteAt_5 : decode cX10_byteAt 5 = .ok (.if_icmp .ge 12, 3) := by decide +kernel
theorem dX10_byteAt_8 : decode cX10_byteAt 8 = .ok (.aload_n 0, 1) := by decide +kernel
theorem dX10_byteAt_9 : decode cX10_byteAt 9 = .ok (.getfield 35, 3) := by decide +kernel
theorem dX10_byteAt_12 : decode cX10_byteAt 12 = .ok (.iload_n 1, 1) := by decide +kernel
theorem dX10_byteAt_13 : decode cX10_byteAt 13 = .ok (.iaload, 1) := by decide +kernel
theorem dX10_byteAt_14 : decode cX10_byteAt 14 = .ok (.goto 4, 3) := by decide +kernel
theorem dX10_byteAt_17 : decode cX10_byteAt 17 = .ok (.iconst (-1), 1) := by decide +kernel
theorem dX10_byteAt_18 : decode cX10_byteAt 18 = .ok (.ireturn, 1) := by decide +kernel
theorem dX10_advanceToken_0 : decode cX10_advanceToken 0 = .ok (.aload_n 0, 1) := by decide +kernel
theorem dX10_advanceToken_1 : decode cX10_advanceToken 1 = .ok (.aload_n 0, 1) := by decide +kernel
theorem dX10_advanceToken_2 : decode cX10_advanceToken 2 = .ok (.getfield 231, 3) := by decide +kernel
theorem dX10_advanceToken_5 : decode cX10_advanceToken 5 = .ok (.invokevirtual 234, 3) := by decide +kernel
theorem dX10_advanceToken_8 : decode cX10_advanceToken 8 = .ok (.bipush 32, 2) := by decide +kernel
theorem dX10_advanceToken_10 : decode cX10_advanceToken 10 = .ok (.if_icmp .eq 16, 3) := by decide +kernel
theorem dX10_advanceToken_13 : decode cX10_advanceToken 13 = .ok (.aload_n 0, 1) := by decide +kernel
theorem dX10_advanceToken_14 : decode cX10_advanceToken 14 = .ok (.aload_n 0, 1) := by decide +kernel
theorem dX10_advanceToken_15 : decode cX10_advanceToken 15 = .ok (.getfield 231, 3) := by decide +kernel
theorem dX10_advanceToken_18 : decode cX10_advanceToken 18 = .ok (.invokevirtual 234, 3) := by decide +kernel
theorem dX10_advanceToken_21 : decode cX10_advanceToken 21 = .ok (.bipush 10, 2) := by decide +kernel
theorem dX10_advanceToken_23 : decode cX10_advanceToken 23 = .ok (.if_icmp .ne 16, 3) := by decide +kernel
theorem dX10_advanceToken_26 : decode cX10_advanceToken 26 = .ok (.aload_n 0, 1) := by decide +kernel
theorem dX10_advanceToken_27 : decode cX10_advanceToken 27 = .ok (.dup, 1) := by decide +kernel
theorem dX10_advanceToken_28 : decode cX10_advanceToken 28 = .ok (.getfield 231, 3) := by decide +kernel
theorem dX10_advanceToken_31 : decode cX10_advanceToken 31 = .ok (.iconst 1, 1) := by decide +kernel
theorem dX10_advanceToken_32 : decode cX10_advanceToken 32 = .ok (.iadd, 1) := by decide +kernel
theorem dX10_advanceToken_33 : decode cX10_advanceToken 33 = .ok (.putfield 231, 3) := by decide +kernel
theorem dX10_advanceToken_36 : decode cX10_advanceToken 36 = .ok (.goto (-36), 3) := by decide +kernel
theorem dX10_advanceToken_39 : decode cX10_advanceToken 39 = .ok (.aload_n 0, 1) := by decide +kernel
theorem dX10_advanceToken_40 : decode cX10_advanceToken 40 = .ok (.aload_n 0, 1) := by decide +kernel
theorem dX10_advanceToken_41 : decode cX10_advanceToken 41 = .ok (.getfield 231, 3) := by decide +kernel
theorem dX10_advanceToken_44 : decode cX10_advanceToken 44 = .ok (.putfield 237, 3) := by decide +kernel
theorem dX10_advanceToken_47 : decode cX10_advanceToken 47 = .ok (.aload_n 0, 1) := by decide +kernel
theorem dX10_advanceToken_48 : decode cX10_advanceToken 48 = .ok (.aload_n 0, 1) := by decide +kernel
theorem dX10_advanceToken_49 : decode cX10_advanceToken 49 = .ok (.getfield 231, 3) := by decide +kernel
theorem dX10_advanceToken_52 : decode cX10_advanceToken 52 = .ok (.invokevirtual 234, 3) := by decide +kernel
theorem dX10_advanceToken_55 : decode cX10_advanceToken 55 = .ok (.istore_n 1, 1) := by decide +kernel
theorem dX10_advanceToken_56 : decode cX10_advanceToken 56 = .ok (.aload_n 0, 1) := by decide +kernel
theorem dX10_advanceToken_57 : decode cX10_advanceToken 57 = .ok (.iconst 0, 1) := by decide +kernel
theorem dX10_advanceToken_58 : decode cX10_advanceToken 58 = .ok (.putfield 240, 3) := by decide +kernel
theorem dX10_advanceToken_61 : decode cX10_advanceToken 61 = .ok (.iload_n 1, 1) := by decide +kernel
theorem dX10_advanceToken_62 : decode cX10_advanceToken 62 = .ok (.iconst (-1), 1) := by decide +kernel
theorem dX10_advanceToken_63 : decode cX10_advanceToken 63 = .ok (.if_icmp .ne 11, 3) := by decide +kernel
theorem dX10_advanceToken_66 : decode cX10_advanceToken 66 = .ok (.aload_n 0, 1) := by decide +kernel
theorem dX10_advanceToken_67 : decode cX10_advanceToken 67 = .ok (.iconst 0, 1) := by decide +kernel
theorem dX10_advanceToken_68 : decode cX10_advanceToken 68 = .ok (.putfield 243, 3) := by decide +kernel
theorem dX10_advanceToken_71 : decode cX10_advanceToken 71 = .ok (.goto 171, 3) := by decide +kernel
theorem dX10_advanceToken_74 : decode cX10_advanceToken 74 = .ok (.iload_n 1, 1) := by decide +kernel
theorem dX10_advanceToken_75 : decode cX10_advanceToken 75 = .ok (.i2l, 1) := by decide +kernel
theorem dX10_advanceToken_76 : decode cX10_advanceToken 76 = .ok (.ldc2_w 246, 3) := by decide +kernel
theorem dX10_advanceToken_79 : decode cX10_advanceToken 79 = .ok (.ldc2_w 248, 3) := by decide +kernel
theorem dX10_advanceToken_82 : decode cX10_advanceToken 82 = .ok (.invokestatic 129, 3) := by decide +kernel
theorem dX10_advanceToken_85 : decode cX10_advanceToken 85 = .ok (.ifCond .eq 42, 3) := by decide +kernel
theorem dX10_advanceToken_88 : decode cX10_advanceToken 88 = .ok (.aload_n 0, 1) := by decide +kernel
theorem dX10_advanceToken_89 : decode cX10_advanceToken 89 = .ok (.iconst 1, 1) := by decide +kernel
theorem dX10_advanceToken_90 : decode cX10_advanceToken 90 = .ok (.putfield 243, 3) := by decide +kernel
theorem dX10_advanceToken_93 : decode cX10_advanceToken 93 = .ok (.aload_n 0, 1) := by decide +kernel
theorem dX10_advanceToken_94 : decode cX10_advanceToken 94 = .ok (.aload_n 0, 1) := by decide +kernel
theorem dX10_advanceToken_95 : decode cX10_advanceToken 95 = .ok (.getfield 231, 3) := by decide +kernel
theorem dX10_advanceToken_98 : decode cX10_advanceToken 98 = .ok (.invokevirtual 234, 3) := by decide +kernel
theorem dX10_advanceToken_101 : decode cX10_advanceToken 101 = .ok (.i2l, 1) := by decide +kernel
theorem dX10_advanceToken_102 : decode cX10_advanceToken 102 = .ok (.ldc2_w 246, 3) := by decide +kernel
theorem dX10_advanceToken_105 : decode cX10_advanceToken 105 = .ok (.ldc2_w 248, 3) := by decide +kernel
theorem dX10_advanceToken_108 : decode cX10_advanceToken 108 = .ok (.invokestatic 129, 3) := by decide +kernel
theorem dX10_advanceToken_111 : decode cX10_advanceToken 111 = .ok (.ifCond .eq 131, 3) := by decide +kernel
theorem dX10_advanceToken_114 : decode cX10_advanceToken 114 = .ok (.aload_n 0, 1) := by decide +kernel
theorem dX10_advanceToken_115 : decode cX10_advanceToken 115 = .ok (.dup, 1) := by decide +kernel
theorem dX10_advanceToken_116 : decode cX10_advanceToken 116 = .ok (.getfield 231, 3) := by decide +kernel
theorem dX10_advanceToken_119 : decode cX10_advanceToken 119 = .ok (.iconst 1, 1) := by decide +kernel
theorem dX10_advanceToken_120 : decode cX10_advanceToken 120 = .ok (.iadd, 1) := by decide +kernel
theorem dX10_advanceToken_121 : decode cX10_advanceToken 121 = .ok (.putfield 231, 3) := by decide +kernel
theorem dX10_advanceToken_124 : decode cX10_advanceToken 124 = .ok (.goto (-31), 3) := by decide +kernel
theorem dX10_advanceToken_127 : decode cX10_advanceToken 127 = .ok (.iload_n 1, 1) := by decide +kernel
theorem dX10_advanceToken_128 : decode cX10_advanceToken 128 = .ok (.i2l, 1) := by decide +kernel
theorem dX10_advanceToken_129 : decode cX10_advanceToken 129 = .ok (.ldc2_w 250, 3) := by decide +kernel
theorem dX10_advanceToken_132 : decode cX10_advanceToken 132 = .ok (.ldc2_w 252, 3) := by decide +kernel
theorem dX10_advanceToken_135 : decode cX10_advanceToken 135 = .ok (.invokestatic 129, 3) := by decide +kernel
theorem dX10_advanceToken_138 : decode cX10_advanceToken 138 = .ok (.ifCond .eq 79, 3) := by decide +kernel
theorem dX10_advanceToken_141 : decode cX10_advanceToken 141 = .ok (.aload_n 0, 1) := by decide +kernel
theorem dX10_advanceToken_142 : decode cX10_advanceToken 142 = .ok (.iconst 2, 1) := by decide +kernel
theorem dX10_advanceToken_143 : decode cX10_advanceToken 143 = .ok (.putfield 243, 3) := by decide +kernel
theorem dX10_advanceToken_146 : decode cX10_advanceToken 146 = .ok (.aload_n 0, 1) := by decide +kernel
theorem dX10_advanceToken_147 : decode cX10_advanceToken 147 = .ok (.aload_n 0, 1) := by decide +kernel
theorem dX10_advanceToken_148 : decode cX10_advanceToken 148 = .ok (.getfield 231, 3) := by decide +kernel
theorem dX10_advanceToken_151 : decode cX10_advanceToken 151 = .ok (.invokevirtual 234, 3) := by decide +kernel
theorem dX10_advanceToken_154 : decode cX10_advanceToken 154 = .ok (.i2l, 1) := by decide +kernel
theorem dX10_advanceToken_155 : decode cX10_advanceToken 155 = .ok (.ldc2_w 250, 3) := by decide +kernel
theorem dX10_advanceToken_158 : decode cX10_advanceToken 158 = .ok (.ldc2_w 252, 3) := by decide +kernel
theorem dX10_advanceToken_161 : decode cX10_advanceToken 161 = .ok (.invokestatic 129, 3) := by decide +kernel
theorem dX10_advanceToken_164 : decode cX10_advanceToken 164 = .ok (.ifCond .eq 78, 3) := by decide +kernel
theorem dX10_advanceToken_167 : decode cX10_advanceToken 167 = .ok (.aload_n 0, 1) := by decide +kernel
theorem dX10_advanceToken_168 : decode cX10_advanceToken 168 = .ok (.getfield 231, 3) := by decide +kernel
theorem dX10_advanceToken_171 : decode cX10_advanceToken 171 = .ok (.aload_n 0, 1) := by decide +kernel
theorem dX10_advanceToken_172 : decode cX10_advanceToken 172 = .ok (.getfield 237, 3) := by decide +kernel
theorem dX10_advanceToken_175 : decode cX10_advanceToken 175 = .ok (.isub, 1) := by decide +kernel
theorem dX10_advanceToken_176 : decode cX10_advanceToken 176 = .ok (.bipush 6, 2) := by decide +kernel
theorem dX10_advanceToken_178 : decode cX10_advanceToken 178 = .ok (.if_icmp .ge 26, 3) := by decide +kernel
theorem dX10_advanceToken_181 : decode cX10_advanceToken 181 = .ok (.aload_n 0, 1) := by decide +kernel
theorem dX10_advanceToken_182 : decode cX10_advanceToken 182 = .ok (.bipush 10, 2) := by decide +kernel
theorem dX10_advanceToken_184 : decode cX10_advanceToken 184 = .ok (.aload_n 0, 1) := by decide +kernel
theorem dX10_advanceToken_185 : decode cX10_advanceToken 185 = .ok (.getfield 240, 3) := by decide +kernel
theorem dX10_advanceToken_188 : decode cX10_advanceToken 188 = .ok (.imul, 1) := by decide +kernel
theorem dX10_advanceToken_189 : decode cX10_advanceToken 189 = .ok (.aload_n 0, 1) := by decide +kernel
theorem dX10_advanceToken_190 : decode cX10_advanceToken 190 = .ok (.aload_n 0, 1) := by decide +kernel
theorem dX10_advanceToken_191 : decode cX10_advanceToken 191 = .ok (.getfield 231, 3) := by decide +kernel
theorem dX10_advanceToken_194 : decode cX10_advanceToken 194 = .ok (.invokevirtual 234, 3) := by decide +kernel
theorem dX10_advanceToken_197 : decode cX10_advanceToken 197 = .ok (.iadd, 1) := by decide +kernel
theorem dX10_advanceToken_198 : decode cX10_advanceToken 198 = .ok (.bipush 48, 2) := by decide +kernel
theorem dX10_advanceToken_200 : decode cX10_advanceToken 200 = .ok (.isub, 1) := by decide +kernel
theorem dX10_advanceToken_201 : decode cX10_advanceToken 201 = .ok (.putfield 240, 3) := by decide +kernel
theorem dX10_advanceToken_204 : decode cX10_advanceToken 204 = .ok (.aload_n 0, 1) := by decide +kernel
theorem dX10_advanceToken_205 : decode cX10_advanceToken 205 = .ok (.dup, 1) := by decide +kernel
theorem dX10_advanceToken_206 : decode cX10_advanceToken 206 = .ok (.getfield 231, 3) := by decide +kernel
theorem dX10_advanceToken_209 : decode cX10_advanceToken 209 = .ok (.iconst 1, 1) := by decide +kernel
theorem dX10_advanceToken_210 : decode cX10_advanceToken 210 = .ok (.iadd, 1) := by decide +kernel
theorem dX10_advanceToken_211 : decode cX10_advanceToken 211 = .ok (.putfield 231, 3) := by decide +kernel
theorem dX10_advanceToken_214 : decode cX10_advanceToken 214 = .ok (.goto (-68), 3) := by decide +kernel
theorem dX10_advanceToken_217 : decode cX10_advanceToken 217 = .ok (.aload_n 0, 1) := by decide +kernel
theorem dX10_advanceToken_218 : decode cX10_advanceToken 218 = .ok (.iload_n 1, 1) := by decide +kernel
theorem dX10_advanceToken_219 : decode cX10_advanceToken 219 = .ok (.bipush 59, 2) := by decide +kernel
theorem dX10_advanceToken_221 : decode cX10_advanceToken 221 = .ok (.if_icmp .ne 7, 3) := by decide +kernel
theorem dX10_advanceToken_224 : decode cX10_advanceToken 224 = .ok (.iconst 3, 1) := by decide +kernel
theorem dX10_advanceToken_225 : decode cX10_advanceToken 225 = .ok (.goto 4, 3) := by decide +kernel
theorem dX10_advanceToken_228 : decode cX10_advanceToken 228 = .ok (.iconst 4, 1) := by decide +kernel
theorem dX10_advanceToken_229 : decode cX10_advanceToken 229 = .ok (.putfield 243, 3) := by decide +kernel
theorem dX10_advanceToken_232 : decode cX10_advanceToken 232 = .ok (.aload_n 0, 1) := by decide +kernel
theorem dX10_advanceToken_233 : decode cX10_advanceToken 233 = .ok (.dup, 1) := by decide +kernel
theorem dX10_advanceToken_234 : decode cX10_advanceToken 234 = .ok (.getfield 231, 3) := by decide +kernel
theorem dX10_advanceToken_237 : decode cX10_advanceToken 237 = .ok (.iconst 1, 1) := by decide +kernel
theorem dX10_advanceToken_238 : decode cX10_advanceToken 238 = .ok (.iadd, 1) := by decide +kernel
theorem dX10_advanceToken_239 : decode cX10_advanceToken 239 = .ok (.putfield 231, 3) := by decide +kernel
theorem dX10_advanceToken_242 : decode cX10_advanceToken 242 = .ok (.return_, 1) := by decide +kernel
theorem dX10_tokenLength_0 : decode cX10_tokenLength 0 = .ok (.aload_n 0, 1) := by decide +kernel
theorem dX10_tokenLength_1 : decode cX10_tokenLength 1 = .ok (.getfield 231, 3) := by decide +kernel
theorem dX10_tokenLength_4 : decode cX10_tokenLength 4 = .ok (.aload_n 0, 1) := by decide +kernel
theorem dX10_tokenLength_5 : decode cX10_tokenLength 5 = .ok (.getfield 237, 3) := by decide +kernel
theorem dX10_tokenLength_8 : decode cX10_tokenLength 8 = .ok (.isub, 1) := by decide +kernel
theorem dX10_tokenLength_9 : decode cX10_tokenLength 9 = .ok (.ireturn, 1) := by decide +kernel
theorem dX10_failsAt_0 : decode cX10_failsAt 0 = .ok (.aload_n 0, 1) := by decide +kernel
theorem dX10_failsAt_1 : decode cX10_failsAt 1 = .ok (.getfield 254, 3) := by decide +kernel
theorem dX10_failsAt_4 : decode cX10_failsAt 4 = .ok (.ifCond .ne 16, 3) := by decide +kernel
theorem dX10_failsAt_7 : decode cX10_failsAt 7 = .ok (.aload_n 0, 1) := by decide +kernel
theorem dX10_failsAt_8 : decode cX10_failsAt 8 = .ok (.iload_n 1, 1) := by decide +kernel
theorem dX10_failsAt_9 : decode cX10_failsAt 9 = .ok (.putfield 254, 3) := by decide +kernel
theorem dX10_failsAt_12 : decode cX10_failsAt 12 = .ok (.aload_n 0, 1) := by decide +kernel
theorem dX10_failsAt_13 : decode cX10_failsAt 13 = .ok (.aload_n 0, 1) := by decide +kernel
theorem dX10_failsAt_14 : decode cX10_failsAt 14 = .ok (.getfield 237, 3) := by decide +kernel
theorem dX10_failsAt_17 : decode cX10_failsAt 17 = .ok (.putfield 257, 3) := by decide +kernel
theorem dX10_failsAt_20 : decode cX10_failsAt 20 = .ok (.iconst 0, 1) := by decide +kernel
theorem dX10_failsAt_21 : decode cX10_failsAt 21 = .ok (.ireturn, 1) := by decide +kernel
theorem dX10_isWord_0 : decode cX10_isWord 0 = .ok (.aload_n 0, 1) := by decide +kernel
theorem dX10_isWord_1 : decode cX10_isWord 1 = .ok (.getfield 243, 3) := by decide +kernel
theorem dX10_isWord_4 : decode cX10_isWord 4 = .ok (.iconst 1, 1) := by decide +kernel
theorem dX10_isWord_5 : decode cX10_isWord 5 = .ok (.if_icmp .ne 14, 3) := by decide +kernel
theorem dX10_isWord_8 : decode cX10_isWord 8 = .ok (.aload_n 0, 1) := by decide +kernel
theorem dX10_isWord_9 : decode cX10_isWord 9 = .ok (.invokevirtual 260, 3) := by decide +kernel
theorem dX10_isWord_12 : decode cX10_isWord 12 = .ok (.aload_n 1, 1) := by decide +kernel
theorem dX10_isWord_13 : decode cX10_isWord 13 = .ok (.invokevirtual 263, 3) := by decide +kernel
theorem dX10_isWord_16 : decode cX10_isWord 16 = .ok (.if_icmp .eq 5, 3) := by decide +kernel
theorem dX10_isWord_19 : decode cX10_isWord 19 = .ok (.iconst 0, 1) := by decide +kernel
theorem dX10_isWord_20 : decode cX10_isWord 20 = .ok (.ireturn, 1) := by decide +kernel
theorem dX10_isWord_21 : decode cX10_isWord 21 = .ok (.iconst 0, 1) := by decide +kernel
theorem dX10_isWord_22 : decode cX10_isWord 22 = .ok (.istore_n 2, 1) := by decide +kernel
theorem dX10_isWord_23 : decode cX10_isWord 23 = .ok (.iload_n 2, 1) := by decide +kernel
theorem dX10_isWord_24 : decode cX10_isWord 24 = .ok (.aload_n 1, 1) := by decide +kernel
theorem dX10_isWord_25 : decode cX10_isWord 25 = .ok (.invokevirtual 263, 3) := by decide +kernel
theorem dX10_isWord_28 : decode cX10_isWord 28 = .ok (.if_icmp .ge 30, 3) := by decide +kernel
theorem dX10_isWord_31 : decode cX10_isWord 31 = .ok (.aload_n 0, 1) := by decide +kernel
theorem dX10_isWord_32 : decode cX10_isWord 32 = .ok (.getfield 35, 3) := by decide +kernel
theorem dX10_isWord_35 : decode cX10_isWord 35 = .ok (.aload_n 0, 1) := by decide +kernel
theorem dX10_isWord_36 : decode cX10_isWord 36 = .ok (.getfield 237, 3) := by decide +kernel
theorem dX10_isWord_39 : decode cX10_isWord 39 = .ok (.iload_n 2, 1) := by decide +kernel
theorem dX10_isWord_40 : decode cX10_isWord 40 = .ok (.iadd, 1) := by decide +kernel
theorem dX10_isWord_41 : decode cX10_isWord 41 = .ok (.iaload, 1) := by decide +kernel
theorem dX10_isWord_42 : decode cX10_isWord 42 = .ok (.aload_n 1, 1) := by decide +kernel
theorem dX10_isWord_43 : decode cX10_isWord 43 = .ok (.iload_n 2, 1) := by decide +kernel
theorem dX10_isWord_44 : decode cX10_isWord 44 = .ok (.invokevirtual 268, 3) := by decide +kernel
theorem dX10_isWord_47 : decode cX10_isWord 47 = .ok (.if_icmp .eq 5, 3) := by decide +kernel
theorem dX10_isWord_50 : decode cX10_isWord 50 = .ok (.iconst 0, 1) := by decide +kernel
theorem dX10_isWord_51 : decode cX10_isWord 51 = .ok (.ireturn, 1) := by decide +kernel
theorem dX10_isWord_52 : decode cX10_isWord 52 = .ok (.iinc 2 1, 3) := by decide +kernel
theorem dX10_isWord_55 : decode cX10_isWord 55 = .ok (.goto (-32), 3) := by decide +kernel
theorem dX10_isWord_58 : decode cX10_isWord 58 = .ok (.iconst 1, 1) := by decide +kernel
theorem dX10_isWord_59 : decode cX10_isWord 59 = .ok (.ireturn, 1) := by decide +kernel
theorem dX10_sees_0 : decode cX10_sees 0 = .ok (.aload_n 0, 1) := by decide +kernel
theorem dX10_sees_1 : decode cX10_sees 1 = .ok (.getfield 243, 3) := by decide +kernel
theorem dX10_sees_4 : decode cX10_sees 4 = .ok (.iconst 2, 1) := by decide +kernel
theorem dX10_sees_5 : decode cX10_sees 5 = .ok (.if_icmp .ne 12, 3) := by decide +kernel
theorem dX10_sees_8 : decode cX10_sees 8 = .ok (.aload_n 0, 1) := by decide +kernel
theorem dX10_sees_9 : decode cX10_sees 9 = .ok (.invokevirtual 260, 3) := by decide +kernel
theorem dX10_sees_12 : decode cX10_sees 12 = .ok (.bipush 6, 2) := by decide +kernel
theorem dX10_sees_14 : decode cX10_sees 14 = .ok (.if_icmp .le 9, 3) := by decide +kernel
theorem dX10_sees_17 : decode cX10_sees 17 = .ok (.aload_n 0, 1) := by decide +kernel
theorem dX10_sees_18 : decode cX10_sees 18 = .ok (.iconst 1, 1) := by decide +kernel
theorem dX10_sees_19 : decode cX10_sees 19 = .ok (.invokevirtual 272, 3) := by decide +kernel
theorem dX10_sees_22 : decode cX10_sees 22 = .ok (.ireturn, 1) := by decide +kernel
theorem dX10_sees_23 : decode cX10_sees 23 = .ok (.aload_n 0, 1) := by decide +kernel
theorem dX10_sees_24 : decode cX10_sees 24 = .ok (.getfield 240, 3) := by decide +kernel
theorem dX10_sees_27 : decode cX10_sees 27 = .ok (.i2l, 1) := by decide +kernel
theorem dX10_sees_28 : decode cX10_sees 28 = .ok (.iload_n 1, 1) := by decide +kernel
theorem dX10_sees_29 : decode cX10_sees 29 = .ok (.i2l, 1) := by decide +kernel
theorem dX10_sees_30 : decode cX10_sees 30 = .ok (.iload_n 2, 1) := by decide +kernel
theorem dX10_sees_31 : decode cX10_sees 31 = .ok (.i2l, 1) := by decide +kernel
theorem dX10_sees_32 : decode cX10_sees 32 = .ok (.invokestatic 129, 3) := by decide +kernel
theorem dX10_sees_35 : decode cX10_sees 35 = .ok (.ifCond .ne 9, 3) := by decide +kernel
theorem dX10_sees_38 : decode cX10_sees 38 = .ok (.aload_n 0, 1) := by decide +kernel
theorem dX10_sees_39 : decode cX10_sees 39 = .ok (.iconst 2, 1) := by decide +kernel
theorem dX10_sees_40 : decode cX10_sees 40 = .ok (.invokevirtual 272, 3) := by decide +kernel
theorem dX10_sees_43 : decode cX10_sees 43 = .ok (.ireturn, 1) := by decide +kernel
theorem dX10_sees_44 : decode cX10_sees 44 = .ok (.aload_n 0, 1) := by decide +kernel
theorem dX10_sees_45 : decode cX10_sees 45 = .ok (.aload_n 0, 1) := by decide +kernel
theorem dX10_sees_46 : decode cX10_sees 46 = .ok (.getfield 240, 3) := by decide +kernel
theorem dX10_sees_49 : decode cX10_sees 49 = .ok (.putfield 275, 3) := by decide +kernel
theorem dX10_sees_52 : decode cX10_sees 52 = .ok (.iconst 1, 1) := by decide +kernel
theorem dX10_sees_53 : decode cX10_sees 53 = .ok (.ireturn, 1) := by decide +kernel
theorem dX10_reads_0 : decode cX10_reads 0 = .ok (.aload_n 0, 1) := by decide +kernel
theorem dX10_reads_1 : decode cX10_reads 1 = .ok (.iload_n 2, 1) := by decide +kernel
theorem dX10_reads_2 : decode cX10_reads 2 = .ok (.iload_n 3, 1) := by decide +kernel
theorem dX10_reads_3 : decode cX10_reads 3 = .ok (.invokevirtual 278, 3) := by decide +kernel
theorem dX10_reads_6 : decode cX10_reads 6 = .ok (.ifCond .ne 5, 3) := by decide +kernel
theorem dX10_reads_9 : decode cX10_reads 9 = .ok (.iconst 0, 1) := by decide +kernel
theorem dX10_reads_10 : decode cX10_reads 10 = .ok (.ireturn, 1) := by decide +kernel
theorem dX10_reads_11 : decode cX10_reads 11 = .ok (.aload_n 0, 1) := by decide +kernel
theorem dX10_reads_12 : decode cX10_reads 12 = .ok (.getfield 7, 3) := by decide +kernel
theorem dX10_reads_15 : decode cX10_reads 15 = .ok (.iload_n 1, 1) := by decide +kernel
theorem dX10_reads_16 : decode cX10_reads 16 = .ok (.aload_n 0, 1) := by decide +kernel
theorem dX10_reads_17 : decode cX10_reads 17 = .ok (.getfield 275, 3) := by decide +kernel
theorem dX10_reads_20 : decode cX10_reads 20 = .ok (.iastore, 1) := by decide +kernel
theorem dX10_reads_21 : decode cX10_reads 21 = .ok (.aload_n 0, 1) := by decide +kernel
theorem dX10_reads_22 : decode cX10_reads 22 = .ok (.invokevirtual 282, 3) := by decide +kernel
theorem dX10_reads_25 : decode cX10_reads 25 = .ok (.iconst 1, 1) := by decide +kernel
theorem dX10_reads_26 : decode cX10_reads 26 = .ok (.ireturn, 1) := by decide +kernel
theorem dX10_readRoad_0 : decode cX10_readRoad 0 = .ok (.aload_n 0, 1) := by decide +kernel
theorem dX10_readRoad_1 : decode cX10_readRoad 1 = .ok (.ldc_w 285, 3) := by decide +kernel
theorem dX10_readRoad_4 : decode cX10_readRoad 4 = .ok (.invokevirtual 287, 3) := by decide +kernel
theorem dX10_readRoad_7 : decode cX10_readRoad 7 = .ok (.ifCond .ne 9, 3) := by decide +kernel
theorem dX10_readRoad_10 : decode cX10_readRoad 10 = .ok (.aload_n 0, 1) := by decide +kernel
theorem dX10_readRoad_11 : decode cX10_readRoad 11 = .ok (.iconst 1, 1) := by decide +kernel
theorem dX10_readRoad_12 : decode cX10_readRoad 12 = .ok (.invokevirtual 272, 3) := by decide +kernel
theorem dX10_readRoad_15 : decode cX10_readRoad 15 = .ok (.ireturn, 1) := by decide +kernel
theorem dX10_readRoad_16 : decode cX10_readRoad 16 = .ok (.aload_n 0, 1) := by decide +kernel
theorem dX10_readRoad_17 : decode cX10_readRoad 17 = .ok (.invokevirtual 282, 3) := by decide +kernel
theorem dX10_readRoad_20 : decode cX10_readRoad 20 = .ok (.aload_n 0, 1) := by decide +kernel
theorem dX10_readRoad_21 : decode cX10_readRoad 21 = .ok (.bipush 6, 2) := by decide +kernel
theorem dX10_readRoad_23 : decode cX10_readRoad 23 = .ok (.iconst 1, 1) := by decide +kernel
theorem dX10_readRoad_24 : decode cX10_readRoad 24 = .ok (.bipush 16, 2) := by decide +kernel
theorem dX10_readRoad_26 : decode cX10_readRoad 26 = .ok (.invokevirtual 291, 3) := by decide +kernel
theorem dX10_readRoad_29 : decode cX10_readRoad 29 = .ok (.ifCond .eq 18, 3) := by decide +kernel
theorem dX10_readRoad_32 : decode cX10_readRoad 32 = .ok (.aload_n 0, 1) := by decide +kernel
theorem dX10_readRoad_33 : decode cX10_readRoad 33 = .ok (.bipush 7, 2) := by decide +kernel
theorem dX10_readRoad_35 : decode cX10_readRoad 35 = .ok (.iconst 1, 1) := by decide +kernel
theorem dX10_readRoad_36 : decode cX10_readRoad 36 = .ok (.iconst 4, 1) := by decide +kernel
theorem dX10_readRoad_37 : decode cX10_readRoad 37 = .ok (.invokevirtual 291, 3) := by decide +kernel
theorem dX10_readRoad_40 : decode cX10_readRoad 40 = .ok (.ifCond .eq 7, 3) := by decide +kernel
theorem dX10_readRoad_43 : decode cX10_readRoad 43 = .ok (.iconst 1, 1) := by decide +kernel
theorem dX10_readRoad_44 : decode cX10_readRoad 44 = .ok (.goto 4, 3) := by decide +kernel
theorem dX10_readRoad_47 : decode cX10_readRoad 47 = .ok (.iconst 0, 1) := by decide +kernel
theorem dX10_readRoad_48 : decode cX10_readRoad 48 = .ok (.ireturn, 1) := by decide +kernel
theorem dX10_kindHere_0 : decode cX10_kindHere 0 = .ok (.aload_n 0, 1) := by decide +kernel
theorem dX10_kindHere_1 : decode cX10_kindHere 1 = .ok (.ldc_w 294, 3) := by decide +kernel
theorem dX10_kindHere_4 : decode cX10_kindHere 4 = .ok (.invokevirtual 287, 3) := by decide +kernel
theorem dX10_kindHere_7 : decode cX10_kindHere 7 = .ok (.ifCond .eq 7, 3) := by decide +kernel
theorem dX10_kindHere_10 : decode cX10_kindHere 10 = .ok (.iconst 0, 1) := by decide +kernel
theorem dX10_kindHere_11 : decode cX10_kindHere 11 = .ok (.goto 46, 3) := by decide +kernel
theorem dX10_kindHere_14 : decode cX10_kindHere 14 = .ok (.aload_n 0, 1) := by decide +kernel
theorem dX10_kindHere_15 : decode cX10_kindHere 15 = .ok (.ldc_w 296, 3) := by decide +kernel
theorem dX10_kindHere_18 : decode cX10_kindHere 18 = .ok (.invokevirtual 287, 3) := by decide +kernel
theorem dX10_kindHere_21 : decode cX10_kindHere 21 = .ok (.ifCond .eq 7, 3) := by decide +kernel
theorem dX10_kindHere_24 : decode cX10_kindHere 24 = .ok (.iconst 1, 1) := by decide +kernel
theorem dX10_kindHere_25 : decode cX10_kindHere 25 = .ok (.goto 32, 3) := by decide +kernel
theorem dX10_kindHere_28 : decode cX10_kindHere 28 = .ok (.aload_n 0, 1) := by decide +kernel
theorem dX10_kindHere_29 : decode cX10_kindHere 29 = .ok (.ldc_w 298, 3) := by decide +kernel
theorem dX10_kindHere_32 : decode cX10_kindHere 32 = .ok (.invokevirtual 287, 3) := by decide +kernel
theorem dX10_kindHere_35 : decode cX10_kindHere 35 = .ok (.ifCond .eq 7, 3) := by decide +kernel
theorem dX10_kindHere_38 : decode cX10_kindHere 38 = .ok (.iconst 2, 1) := by decide +kernel
theorem dX10_kindHere_39 : decode cX10_kindHere 39 = .ok (.goto 18, 3) := by decide +kernel
theorem dX10_kindHere_42 : decode cX10_kindHere 42 = .ok (.aload_n 0, 1) := by decide +kernel
theorem dX10_kindHere_43 : decode cX10_kindHere 43 = .ok (.ldc_w 300, 3) := by decide +kernel
theorem dX10_kindHere_46 : decode cX10_kindHere 46 = .ok (.invokevirtual 287, 3) := by decide +kernel
theorem dX10_kindHere_49 : decode cX10_kindHere 49 = .ok (.ifCond .eq 7, 3) := by decide +kernel
theorem dX10_kindHere_52 : decode cX10_kindHere 52 = .ok (.iconst 3, 1) := by decide +kernel
theorem dX10_kindHere_53 : decode cX10_kindHere 53 = .ok (.goto 4, 3) := by decide +kernel
theorem dX10_kindHere_56 : decode cX10_kindHere 56 = .ok (.iconst (-1), 1) := by decide +kernel
theorem dX10_kindHere_57 : decode cX10_kindHere 57 = .ok (.ireturn, 1) := by decide +kernel
theorem dX10_readLayers_0 : decode cX10_readLayers 0 = .ok (.aload_n 0, 1) := by decide +kernel
theorem dX10_readLayers_1 : decode cX10_readLayers 1 = .ok (.getfield 7, 3) := by decide +kernel
theorem dX10_readLayers_4 : decode cX10_readLayers 4 = .ok (.iload_n 1, 1) := by decide +kernel
theorem dX10_readLayers_5 : decode cX10_readLayers 5 = .ok (.iconst 0, 1) := by decide +kernel
theorem dX10_readLayers_6 : decode cX10_readLayers 6 = .ok (.iastore, 1) := by decide +kernel
theorem dX10_readLayers_7 : decode cX10_readLayers 7 = .ok (.aload_n 0, 1) := by decide +kernel
theorem dX10_readLayers_8 : decode cX10_readLayers 8 = .ok (.invokevirtual 302, 3) := by decide +kernel
theorem dX10_readLayers_11 : decode cX10_readLayers 11 = .ok (.iconst (-1), 1) := by decide +kernel
theorem dX10_readLayers_12 : decode cX10_readLayers 12 = .ok (.if_icmp .ne 9, 3) := by decide +kernel
theorem dX10_readLayers_15 : decode cX10_readLayers 15 = .ok (.aload_n 0, 1) := by decide +kernel
theorem dX10_readLayers_16 : decode cX10_readLayers 16 = .ok (.iconst 1, 1) := by decide +kernel
theorem dX10_readLayers_17 : decode cX10_readLayers 17 = .ok (.invokevirtual 272, 3) := by decide +kernel
theorem dX10_readLayers_20 : decode cX10_readLayers 20 = .ok (.ireturn, 1) := by decide +kernel
theorem dX10_readLayers_21 : decode cX10_readLayers 21 = .ok (.aload_n 0, 1) := by decide +kernel
theorem dX10_readLayers_22 : decode cX10_readLayers 22 = .ok (.invokevirtual 302, 3) := by decide +kernel
theorem dX10_readLayers_25 : decode cX10_readLayers 25 = .ok (.iconst (-1), 1) := by decide +kernel
theorem dX10_readLayers_26 : decode cX10_readLayers 26 = .ok (.if_icmp .eq 74, 3) := by decide +kernel
theorem dX10_readLayers_29 : decode cX10_readLayers 29 = .ok (.aload_n 0, 1) := by decide +kernel
theorem dX10_readLayers_30 : decode cX10_readLayers 30 = .ok (.getfield 7, 3) := by decide +kernel
theorem dX10_readLayers_33 : decode cX10_readLayers 33 = .ok (.iload_n 1, 1) := by decide +kernel
theorem dX10_readLayers_34 : decode cX10_readLayers 34 = .ok (.iaload, 1) := by decide +kernel
theorem dX10_readLayers_35 : decode cX10_readLayers 35 = .ok (.istore_n 2, 1) := by decide +kernel
theorem dX10_readLayers_36 : decode cX10_readLayers 36 = .ok (.iload_n 2, 1) := by decide +kernel
theorem dX10_readLayers_37 : decode cX10_readLayers 37 = .ok (.iconst 4, 1) := by decide +kernel
theorem dX10_readLayers_38 : decode cX10_readLayers 38 = .ok (.if_icmp .ne 9, 3) := by decide +kernel
theorem dX10_readLayers_41 : decode cX10_readLayers 41 = .ok (.aload_n 0, 1) := by decide +kernel
theorem dX10_readLayers_42 : decode cX10_readLayers 42 = .ok (.iconst 1, 1) := by decide +kernel
theorem dX10_readLayers_43 : decode cX10_readLayers 43 = .ok (.invokevirtual 272, 3) := by decide +kernel
theorem dX10_readLayers_46 : decode cX10_readLayers 46 = .ok (.ireturn, 1) := by decide +kernel
theorem dX10_readLayers_47 : decode cX10_readLayers 47 = .ok (.aload_n 0, 1) := by decide +kernel
theorem dX10_readLayers_48 : decode cX10_readLayers 48 = .ok (.getfield 7, 3) := by decide +kernel
theorem dX10_readLayers_51 : decode cX10_readLayers 51 = .ok (.iload_n 1, 1) := by decide +kernel
theorem dX10_readLayers_52 : decode cX10_readLayers 52 = .ok (.iconst 1, 1) := by decide +kernel
theorem dX10_readLayers_53 : decode cX10_readLayers 53 = .ok (.iadd, 1) := by decide +kernel
theorem dX10_readLayers_54 : decode cX10_readLayers 54 = .ok (.iconst 2, 1) := by decide +kernel
theorem dX10_readLayers_55 : decode cX10_readLayers 55 = .ok (.iload_n 2, 1) := by decide +kernel
theorem dX10_readLayers_56 : decode cX10_readLayers 56 = .ok (.imul, 1) := by decide +kernel
theorem dX10_readLayers_57 : decode cX10_readLayers 57 = .ok (.iadd, 1) := by decide +kernel
theorem dX10_readLayers_58 : decode cX10_readLayers 58 = .ok (.aload_n 0, 1) := by decide +kernel
theorem dX10_readLayers_59 : decode cX10_readLayers 59 = .ok (.invokevirtual 302, 3) := by decide +kernel
theorem dX10_readLayers_62 : decode cX10_readLayers 62 = .ok (.iastore, 1) := by decide +kernel
theorem dX10_readLayers_63 : decode cX10_readLayers 63 = .ok (.aload_n 0, 1) := by decide +kernel
theorem dX10_readLayers_64 : decode cX10_readLayers 64 = .ok (.invokevirtual 282, 3) := by decide +kernel
theorem dX10_readLayers_67 : decode cX10_readLayers 67 = .ok (.aload_n 0, 1) := by decide +kernel
theorem dX10_readLayers_68 : decode cX10_readLayers 68 = .ok (.iload_n 1, 1) := by decide +kernel
theorem dX10_readLayers_69 : decode cX10_readLayers 69 = .ok (.iconst 2, 1) := by decide +kernel
theorem dX10_readLayers_70 : decode cX10_readLayers 70 = .ok (.iadd, 1) := by decide +kernel
theorem dX10_readLayers_71 : decode cX10_readLayers 71 = .ok (.iconst 2, 1) := by decide +kernel
theorem dX10_readLayers_72 : decode cX10_readLayers 72 = .ok (.iload_n 2, 1) := by decide +kernel
theorem dX10_readLayers_73 : decode cX10_readLayers 73 = .ok (.imul, 1) := by decide +kernel
theorem dX10_readLayers_74 : decode cX10_readLayers 74 = .ok (.iadd, 1) := by decide +kernel
theorem dX10_readLayers_75 : decode cX10_readLayers 75 = .ok (.iconst 1, 1) := by decide +kernel
theorem dX10_readLayers_76 : decode cX10_readLayers 76 = .ok (.sipush 500, 3) := by decide +kernel
theorem dX10_readLayers_79 : decode cX10_readLayers 79 = .ok (.invokevirtual 291, 3) := by decide +kernel
theorem dX10_readLayers_82 : decode cX10_readLayers 82 = .ok (.ifCond .ne 5, 3) := by decide +kernel
theorem dX10_readLayers_85 : decode cX10_readLayers 85 = .ok (.iconst 0, 1) := by decide +kernel
theorem dX10_readLayers_86 : decode cX10_readLayers 86 = .ok (.ireturn, 1) := by decide +kernel
theorem dX10_readLayers_87 : decode cX10_readLayers 87 = .ok (.aload_n 0, 1) := by decide +kernel
theorem dX10_readLayers_88 : decode cX10_readLayers 88 = .ok (.getfield 7, 3) := by decide +kernel
theorem dX10_readLayers_91 : decode cX10_readLayers 91 = .ok (.iload_n 1, 1) := by decide +kernel
theorem dX10_readLayers_92 : decode cX10_readLayers 92 = .ok (.dup2, 1) := by decide +kernel
theorem dX10_readLayers_93 : decode cX10_readLayers 93 = .ok (.iaload, 1) := by decide +kernel
theorem dX10_readLayers_94 : decode cX10_readLayers 94 = .ok (.iconst 1, 1) := by decide +kernel
theorem dX10_readLayers_95 : decode cX10_readLayers 95 = .ok (.iadd, 1) := by decide +kernel
theorem dX10_readLayers_96 : decode cX10_readLayers 96 = .ok (.iastore, 1) := by decide +kernel
theorem dX10_readLayers_97 : decode cX10_readLayers 97 = .ok (.goto (-76), 3) := by decide +kernel
theorem dX10_readLayers_100 : decode cX10_readLayers 100 = .ok (.iconst 1, 1) := by decide +kernel
theorem dX10_readLayers_101 : decode cX10_readLayers 101 = .ok (.ireturn, 1) := by decide +kernel
theorem dX10_seesCell_0 : decode cX10_seesCell 0 = .ok (.aload_n 0, 1) := by decide +kernel
theorem dX10_seesCell_1 : decode cX10_seesCell 1 = .ok (.iconst 0, 1) := by decide +kernel
theorem dX10_seesCell_2 : decode cX10_seesCell 2 = .ok (.aload_n 0, 1) := by decide +kernel
theorem dX10_seesCell_3 : decode cX10_seesCell 3 = .ok (.getfield 7, 3) := by decide +kernel
theorem dX10_seesCell_6 : decode cX10_seesCell 6 = .ok (.bipush 6, 2) := by decide +kernel
theorem dX10_seesCell_8 : decode cX10_seesCell 8 = .ok (.iaload, 1) := by decide +kernel
theorem dX10_seesCell_9 : decode cX10_seesCell 9 = .ok (.iconst 1, 1) := by decide +kernel
theorem dX10_seesCell_10 : decode cX10_seesCell 10 = .ok (.isub, 1) := by decide +kernel
theorem dX10_seesCell_11 : decode cX10_seesCell 11 = .ok (.invokevirtual 278, 3) := by decide +kernel
theorem dX10_seesCell_14 : decode cX10_seesCell 14 = .ok (.ifCond .ne 5, 3) := by decide +kernel
theorem dX10_seesCell_17 : decode cX10_seesCell 17 = .ok (.iconst 0, 1) := by decide +kernel
theorem dX10_seesCell_18 : decode cX10_seesCell 18 = .ok (.ireturn, 1) := by decide +kernel
theorem dX10_seesCell_19 : decode cX10_seesCell 19 = .ok (.aload_n 0, 1) := by decide +kernel
theorem dX10_seesCell_20 : decode cX10_seesCell 20 = .ok (.getfield 275, 3) := by decide +kernel
theorem dX10_seesCell_23 : decode cX10_seesCell 23 = .ok (.istore_n 1, 1) := by decide +kernel
theorem dX10_seesCell_24 : decode cX10_seesCell 24 = .ok (.aload_n 0, 1) := by decide +kernel
theorem dX10_seesCell_25 : decode cX10_seesCell 25 = .ok (.invokevirtual 282, 3) := by decide +kernel
theorem dX10_seesCell_28 : decode cX10_seesCell 28 = .ok (.aload_n 0, 1) := by decide +kernel
theorem dX10_seesCell_29 : decode cX10_seesCell 29 = .ok (.iconst 0, 1) := by decide +kernel
theorem dX10_seesCell_30 : decode cX10_seesCell 30 = .ok (.aload_n 0, 1) := by decide +kernel
theorem dX10_seesCell_31 : decode cX10_seesCell 31 = .ok (.getfield 7, 3) := by decide +kernel
theorem dX10_seesCell_34 : decode cX10_seesCell 34 = .ok (.bipush 7, 2) := by decide +kernel
theorem dX10_seesCell_36 : decode cX10_seesCell 36 = .ok (.iaload, 1) := by decide +kernel
theorem dX10_seesCell_37 : decode cX10_seesCell 37 = .ok (.iconst 1, 1) := by decide +kernel
theorem dX10_seesCell_38 : decode cX10_seesCell 38 = .ok (.isub, 1) := by decide +kernel
theorem dX10_seesCell_39 : decode cX10_seesCell 39 = .ok (.invokevirtual 278, 3) := by decide +kernel
theorem dX10_seesCell_42 : decode cX10_seesCell 42 = .ok (.ifCond .ne 5, 3) := by decide +kernel
theorem dX10_seesCell_45 : decode cX10_seesCell 45 = .ok (.iconst 0, 1) := by decide +kernel
theorem dX10_seesCell_46 : decode cX10_seesCell 46 = .ok (.ireturn, 1) := by decide +kernel
theorem dX10_seesCell_47 : decode cX10_seesCell 47 = .ok (.aload_n 0, 1) := by decide +kernel
theorem dX10_seesCell_48 : decode cX10_seesCell 48 = .ok (.aload_n 0, 1) := by decide +kernel
theorem dX10_seesCell_49 : decode cX10_seesCell 49 = .ok (.getfield 7, 3) := by decide +kernel
theorem dX10_seesCell_52 : decode cX10_seesCell 52 = .ok (.bipush 6, 2) := by decide +kernel
theorem dX10_seesCell_54 : decode cX10_seesCell 54 = .ok (.iaload, 1) := by decide +kernel
theorem dX10_seesCell_55 : decode cX10_seesCell 55 = .ok (.aload_n 0, 1) := by decide +kernel
theorem dX10_seesCell_56 : decode cX10_seesCell 56 = .ok (.getfield 275, 3) := by decide +kernel
theorem dX10_seesCell_59 : decode cX10_seesCell 59 = .ok (.imul, 1) := by decide +kernel
theorem dX10_seesCell_60 : decode cX10_seesCell 60 = .ok (.iload_n 1, 1) := by decide +kernel
theorem dX10_seesCell_61 : decode cX10_seesCell 61 = .ok (.iadd, 1) := by decide +kernel
theorem dX10_seesCell_62 : decode cX10_seesCell 62 = .ok (.putfield 275, 3) := by decide +kernel
theorem dX10_seesCell_65 : decode cX10_seesCell 65 = .ok (.iconst 1, 1) := by decide +kernel
theorem dX10_seesCell_66 : decode cX10_seesCell 66 = .ok (.ireturn, 1) := by decide +kernel
theorem dX10_opensCore_0 : decode cX10_opensCore 0 = .ok (.aload_n 0, 1) := by decide +kernel
theorem dX10_opensCore_1 : decode cX10_opensCore 1 = .ok (.getfield 7, 3) := by decide +kernel
theorem dX10_opensCore_4 : decode cX10_opensCore 4 = .ok (.bipush 8, 2) := by decide +kernel
theorem dX10_opensCore_6 : decode cX10_opensCore 6 = .ok (.iaload, 1) := by decide +kernel
theorem dX10_opensCore_7 : decode cX10_opensCore 7 = .ok (.istore_n 2, 1) := by decide +kernel
theorem dX10_opensCore_8 : decode cX10_opensCore 8 = .ok (.iload_n 2, 1) := by decide +kernel
theorem dX10_opensCore_9 : decode cX10_opensCore 9 = .ok (.ifCond .le 49, 3) := by decide +kernel
theorem dX10_opensCore_12 : decode cX10_opensCore 12 = .ok (.aload_n 0, 1) := by decide +kernel
theorem dX10_opensCore_13 : decode cX10_opensCore 13 = .ok (.iload_n 2, 1) := by decide +kernel
theorem dX10_opensCore_14 : decode cX10_opensCore 14 = .ok (.iconst 1, 1) := by decide +kernel
theorem dX10_opensCore_15 : decode cX10_opensCore 15 = .ok (.isub, 1) := by decide +kernel
theorem dX10_opensCore_16 : decode cX10_opensCore 16 = .ok (.invokevirtual 80, 3) := by decide +kernel
theorem dX10_opensCore_19 : decode cX10_opensCore 19 = .ok (.iload_n 1, 1) := by decide +kernel
theorem dX10_opensCore_20 : decode cX10_opensCore 20 = .ok (.if_icmp .le 38, 3) := by decide +kernel
theorem dX10_opensCore_23 : decode cX10_opensCore 23 = .ok (.aload_n 0, 1) := by decide +kernel
theorem dX10_opensCore_24 : decode cX10_opensCore 24 = .ok (.getfield 7, 3) := by decide +kernel
theorem dX10_opensCore_27 : decode cX10_opensCore 27 = .ok (.bipush 25, 2) := by decide +kernel
theorem dX10_opensCore_29 : decode cX10_opensCore 29 = .ok (.bipush 10, 2) := by decide +kernel
theorem dX10_opensCore_31 : decode cX10_opensCore 31 = .ok (.iload_n 2, 1) := by decide +kernel
theorem dX10_opensCore_32 : decode cX10_opensCore 32 = .ok (.iconst 1, 1) := by decide +kernel
theorem dX10_opensCore_33 : decode cX10_opensCore 33 = .ok (.isub, 1) := by decide +kernel
theorem dX10_opensCore_34 : decode cX10_opensCore 34 = .ok (.imul, 1) := by decide +kernel
theorem dX10_opensCore_35 : decode cX10_opensCore 35 = .ok (.iadd, 1) := by decide +kernel
theorem dX10_opensCore_36 : decode cX10_opensCore 36 = .ok (.aload_n 0, 1) := by decide +kernel
theorem dX10_opensCore_37 : decode cX10_opensCore 37 = .ok (.getfield 7, 3) := by decide +kernel
theorem dX10_opensCore_40 : decode cX10_opensCore 40 = .ok (.bipush 25, 2) := by decide +kernel
theorem dX10_opensCore_42 : decode cX10_opensCore 42 = .ok (.bipush 10, 2) := by decide +kernel
theorem dX10_opensCore_44 : decode cX10_opensCore 44 = .ok (.iload_n 2, 1) := by decide +kernel
theorem dX10_opensCore_45 : decode cX10_opensCore 45 = .ok (.imul, 1) := by decide +kernel
theorem dX10_opensCore_46 : decode cX10_opensCore 46 = .ok (.iadd, 1) := by decide +kernel
theorem dX10_opensCore_47 : decode cX10_opensCore 47 = .ok (.bipush 10, 2) := by decide +kernel
theorem dX10_opensCore_49 : decode cX10_opensCore 49 = .ok (.invokestatic 60, 3) := by decide +kernel
theorem dX10_opensCore_52 : decode cX10_opensCore 52 = .ok (.iinc 2 (-1), 3) := by decide +kernel
theorem dX10_opensCore_55 : decode cX10_opensCore 55 = .ok (.goto (-47), 3) := by decide +kernel
theorem dX10_opensCore_58 : decode cX10_opensCore 58 = .ok (.aload_n 0, 1) := by decide +kernel
theorem dX10_opensCore_59 : decode cX10_opensCore 59 = .ok (.getfield 7, 3) := by decide +kernel
theorem dX10_opensCore_62 : decode cX10_opensCore 62 = .ok (.bipush 25, 2) := by decide +kernel
theorem dX10_opensCore_64 : decode cX10_opensCore 64 = .ok (.bipush 10, 2) := by decide +kernel
theorem dX10_opensCore_66 : decode cX10_opensCore 66 = .ok (.iload_n 2, 1) := by decide +kernel
theorem dX10_opensCore_67 : decode cX10_opensCore 67 = .ok (.imul, 1) := by decide +kernel
theorem dX10_opensCore_68 : decode cX10_opensCore 68 = .ok (.iadd, 1) := by decide +kernel
theorem dX10_opensCore_69 : decode cX10_opensCore 69 = .ok (.iload_n 1, 1) := by decide +kernel
theorem dX10_opensCore_70 : decode cX10_opensCore 70 = .ok (.iastore, 1) := by decide +kernel
theorem dX10_opensCore_71 : decode cX10_opensCore 71 = .ok (.aload_n 0, 1) := by decide +kernel
theorem dX10_opensCore_72 : decode cX10_opensCore 72 = .ok (.getfield 7, 3) := by decide +kernel
theorem dX10_opensCore_75 : decode cX10_opensCore 75 = .ok (.bipush 8, 2) := by decide +kernel
theorem dX10_opensCore_77 : decode cX10_opensCore 77 = .ok (.dup2, 1) := by decide +kernel
theorem dX10_opensCore_78 : decode cX10_opensCore 78 = .ok (.iaload, 1) := by decide +kernel
theorem dX10_opensCore_79 : decode cX10_opensCore 79 = .ok (.iconst 1, 1) := by decide +kernel
theorem dX10_opensCore_80 : decode cX10_opensCore 80 = .ok (.iadd, 1) := by decide +kernel
theorem dX10_opensCore_81 : decode cX10_opensCore 81 = .ok (.iastore, 1) := by decide +kernel
theorem dX10_opensCore_82 : decode cX10_opensCore 82 = .ok (.iload_n 2, 1) := by decide +kernel
theorem dX10_opensCore_83 : decode cX10_opensCore 83 = .ok (.ireturn, 1) := by decide +kernel
theorem dX10_readCore_0 : decode cX10_readCore 0 = .ok (.aload_n 0, 1) := by decide +kernel
theorem dX10_readCore_1 : decode cX10_readCore 1 = .ok (.getfield 7, 3) := by decide +kernel
theorem dX10_readCore_4 : decode cX10_readCore 4 = .ok (.bipush 8, 2) := by decide +kernel
theorem dX10_readCore_6 : decode cX10_readCore 6 = .ok (.iaload, 1) := by decide +kernel
theorem dX10_readCore_7 : decode cX10_readCore 7 = .ok (.bipush 12, 2) := by decide +kernel
theorem dX10_readCore_9 : decode cX10_readCore 9 = .ok (.if_icmp .ne 9, 3) := by decide +kernel
theorem dX10_readCore_12 : decode cX10_readCore 12 = .ok (.aload_n 0, 1) := by decide +kernel
theorem dX10_readCore_13 : decode cX10_readCore 13 = .ok (.iconst 4, 1) := by decide +kernel
theorem dX10_readCore_14 : decode cX10_readCore 14 = .ok (.invokevirtual 272, 3) := by decide +kernel
theorem dX10_readCore_17 : decode cX10_readCore 17 = .ok (.ireturn, 1) := by decide +kernel
theorem dX10_readCore_18 : decode cX10_readCore 18 = .ok (.aload_n 0, 1) := by decide +kernel
theorem dX10_readCore_19 : decode cX10_readCore 19 = .ok (.invokevirtual 282, 3) := by decide +kernel
theorem dX10_readCore_22 : decode cX10_readCore 22 = .ok (.aload_n 0, 1) := by decide +kernel
theorem dX10_readCore_23 : decode cX10_readCore 23 = .ok (.invokevirtual 305, 3) := by decide +kernel
theorem dX10_readCore_26 : decode cX10_readCore 26 = .ok (.ifCond .ne 5, 3) := by decide +kernel
theorem dX10_readCore_29 : decode cX10_readCore 29 = .ok (.iconst 0, 1) := by decide +kernel
theorem dX10_readCore_30 : decode cX10_readCore 30 = .ok (.ireturn, 1) := by decide +kernel
theorem dX10_readCore_31 : decode cX10_readCore 31 = .ok (.aload_n 0, 1) := by decide +kernel
theorem dX10_readCore_32 : decode cX10_readCore 32 = .ok (.aload_n 0, 1) := by decide +kernel
theorem dX10_readCore_33 : decode cX10_readCore 33 = .ok (.getfield 275, 3) := by decide +kernel
theorem dX10_readCore_36 : decode cX10_readCore 36 = .ok (.invokevirtual 309, 3) := by decide +kernel
theorem dX10_readCore_39 : decode cX10_readCore 39 = .ok (.iconst (-1), 1) := by decide +kernel
theorem dX10_readCore_40 : decode cX10_readCore 40 = .ok (.if_icmp .eq 9, 3) := by decide +kernel
theorem dX10_readCore_43 : decode cX10_readCore 43 = .ok (.aload_n 0, 1) := by decide +kernel
theorem dX10_readCore_44 : decode cX10_readCore 44 = .ok (.iconst 3, 1) := by decide +kernel
theorem dX10_readCore_45 : decode cX10_readCore 45 = .ok (.invokevirtual 272, 3) := by decide +kernel
theorem dX10_readCore_48 : decode cX10_readCore 48 = .ok (.ireturn, 1) := by decide +kernel
theorem dX10_readCore_49 : decode cX10_readCore 49 = .ok (.aload_n 0, 1) := by decide +kernel
theorem dX10_readCore_50 : decode cX10_readCore 50 = .ok (.invokevirtual 282, 3) := by decide +kernel
theorem dX10_readCore_53 : decode cX10_readCore 53 = .ok (.aload_n 0, 1) := by decide +kernel
theorem dX10_readCore_54 : decode cX10_readCore 54 = .ok (.aload_n 0, 1) := by decide +kernel
theorem dX10_readCore_55 : decode cX10_readCore 55 = .ok (.getfield 275, 3) := by decide +kernel
theorem dX10_readCore_58 : decode cX10_readCore 58 = .ok (.invokevirtual 312, 3) := by decide +kernel
theorem dX10_readCore_61 : decode cX10_readCore 61 = .ok (.istore_n 1, 1) := by decide +kernel
theorem dX10_readCore_62 : decode cX10_readCore 62 = .ok (.aload_n 0, 1) := by decide +kernel
theorem dX10_readCore_63 : decode cX10_readCore 63 = .ok (.bipush 25, 2) := by decide +kernel
theorem dX10_readCore_65 : decode cX10_readCore 65 = .ok (.bipush 10, 2) := by decide +kernel
theorem dX10_readCore_67 : decode cX10_readCore 67 = .ok (.iload_n 1, 1) := by decide +kernel
theorem dX10_readCore_68 : decode cX10_readCore 68 = .ok (.imul, 1) := by decide +kernel
theorem dX10_readCore_69 : decode cX10_readCore 69 = .ok (.iadd, 1) := by decide +kernel
theorem dX10_readCore_70 : decode cX10_readCore 70 = .ok (.iconst 1, 1) := by decide +kernel
theorem dX10_readCore_71 : decode cX10_readCore 71 = .ok (.iadd, 1) := by decide +kernel
theorem dX10_readCore_72 : decode cX10_readCore 72 = .ok (.invokevirtual 315, 3) := by decide +kernel
theorem dX10_readCore_75 : decode cX10_readCore 75 = .ok (.ireturn, 1) := by decide +kernel
theorem dX10_readLoad_0 : decode cX10_readLoad 0 = .ok (.aload_n 0, 1) := by decide +kernel
theorem dX10_readLoad_1 : decode cX10_readLoad 1 = .ok (.getfield 7, 3) := by decide +kernel
theorem dX10_readLoad_4 : decode cX10_readLoad 4 = .ok (.bipush 9, 2) := by decide +kernel
theorem dX10_readLoad_6 : decode cX10_readLoad 6 = .ok (.iaload, 1) := by decide +kernel
theorem dX10_readLoad_7 : decode cX10_readLoad 7 = .ok (.bipush 10, 2) := by decide +kernel
theorem dX10_readLoad_9 : decode cX10_readLoad 9 = .ok (.if_icmp .ne 9, 3) := by decide +kernel
theorem dX10_readLoad_12 : decode cX10_readLoad 12 = .ok (.aload_n 0, 1) := by decide +kernel
theorem dX10_readLoad_13 : decode cX10_readLoad 13 = .ok (.iconst 4, 1) := by decide +kernel
theorem dX10_readLoad_14 : decode cX10_readLoad 14 = .ok (.invokevirtual 272, 3) := by decide +kernel
theorem dX10_readLoad_17 : decode cX10_readLoad 17 = .ok (.ireturn, 1) := by decide +kernel
theorem dX10_readLoad_18 : decode cX10_readLoad 18 = .ok (.sipush 145, 3) := by decide +kernel
theorem dX10_readLoad_21 : decode cX10_readLoad 21 = .ok (.bipush 6, 2) := by decide +kernel
theorem dX10_readLoad_23 : decode cX10_readLoad 23 = .ok (.aload_n 0, 1) := by decide +kernel
theorem dX10_readLoad_24 : decode cX10_readLoad 24 = .ok (.getfield 7, 3) := by decide +kernel
theorem dX10_readLoad_27 : decode cX10_readLoad 27 = .ok (.bipush 9, 2) := by decide +kernel
theorem dX10_readLoad_29 : decode cX10_readLoad 29 = .ok (.iaload, 1) := by decide +kernel
theorem dX10_readLoad_30 : decode cX10_readLoad 30 = .ok (.imul, 1) := by decide +kernel
theorem dX10_readLoad_31 : decode cX10_readLoad 31 = .ok (.iadd, 1) := by decide +kernel
theorem dX10_readLoad_32 : decode cX10_readLoad 32 = .ok (.istore_n 1, 1) := by decide +kernel
theorem dX10_readLoad_33 : decode cX10_readLoad 33 = .ok (.aload_n 0, 1) := by decide +kernel
theorem dX10_readLoad_34 : decode cX10_readLoad 34 = .ok (.invokevirtual 282, 3) := by decide +kernel
theorem dX10_readLoad_37 : decode cX10_readLoad 37 = .ok (.aload_n 0, 1) := by decide +kernel
theorem dX10_readLoad_38 : decode cX10_readLoad 38 = .ok (.iload_n 1, 1) := by decide +kernel
theorem dX10_readLoad_39 : decode cX10_readLoad 39 = .ok (.iconst 0, 1) := by decide +kernel
theorem dX10_readLoad_40 : decode cX10_readLoad 40 = .ok (.iadd, 1) := by decide +kernel
theorem dX10_readLoad_41 : decode cX10_readLoad 41 = .ok (.iconst 0, 1) := by decide +kernel
theorem dX10_readLoad_42 : decode cX10_readLoad 42 = .ok (.aload_n 0, 1) := by decide +kernel
theorem dX10_readLoad_43 : decode cX10_readLoad 43 = .ok (.getfield 7, 3) := by decide +kernel
theorem dX10_readLoad_46 : decode cX10_readLoad 46 = .ok (.bipush 7, 2) := by decide +kernel
theorem dX10_readLoad_48 : decode cX10_readLoad 48 = .ok (.iaload, 1) := by decide +kernel
theorem dX10_readLoad_49 : decode cX10_readLoad 49 = .ok (.iconst 1, 1) := by decide +kernel
theorem dX10_readLoad_50 : decode cX10_readLoad 50 = .ok (.isub, 1) := by decide +kernel
theorem dX10_readLoad_51 : decode cX10_readLoad 51 = .ok (.invokevirtual 291, 3) := by decide +kernel
theorem dX10_readLoad_54 : decode cX10_readLoad 54 = .ok (.ifCond .eq 77, 3) := by decide +kernel
theorem dX10_readLoad_57 : decode cX10_readLoad 57 = .ok (.aload_n 0, 1) := by decide +kernel
theorem dX10_readLoad_58 : decode cX10_readLoad 58 = .ok (.iload_n 1, 1) := by decide +kernel
theorem dX10_readLoad_59 : decode cX10_readLoad 59 = .ok (.iconst 1, 1) := by decide +kernel
theorem dX10_readLoad_60 : decode cX10_readLoad 60 = .ok (.iadd, 1) := by decide +kernel
theorem dX10_readLoad_61 : decode cX10_readLoad 61 = .ok (.iconst 0, 1) := by decide +kernel
theorem dX10_readLoad_62 : decode cX10_readLoad 62 = .ok (.aload_n 0, 1) := by decide +kernel
theorem dX10_readLoad_63 : decode cX10_readLoad 63 = .ok (.getfield 7, 3) := by decide +kernel
theorem dX10_readLoad_66 : decode cX10_readLoad 66 = .ok (.bipush 6, 2) := by decide +kernel
theorem dX10_readLoad_68 : decode cX10_readLoad 68 = .ok (.iaload, 1) := by decide +kernel
theorem dX10_readLoad_69 : decode cX10_readLoad 69 = .ok (.iconst 1, 1) := by decide +kernel
theorem dX10_readLoad_70 : decode cX10_readLoad 70 = .ok (.isub, 1) := by decide +kernel
theorem dX10_readLoad_71 : decode cX10_readLoad 71 = .ok (.invokevirtual 291, 3) := by decide +kernel
theorem dX10_readLoad_74 : decode cX10_readLoad 74 = .ok (.ifCond .eq 57, 3) := by decide +kernel
theorem dX10_readLoad_77 : decode cX10_readLoad 77 = .ok (.aload_n 0, 1) := by decide +kernel
theorem dX10_readLoad_78 : decode cX10_readLoad 78 = .ok (.iload_n 1, 1) := by decide +kernel
theorem dX10_readLoad_79 : decode cX10_readLoad 79 = .ok (.iconst 2, 1) := by decide +kernel
theorem dX10_readLoad_80 : decode cX10_readLoad 80 = .ok (.iadd, 1) := by decide +kernel
theorem dX10_readLoad_81 : decode cX10_readLoad 81 = .ok (.aload_n 0, 1) := by decide +kernel
theorem dX10_readLoad_82 : decode cX10_readLoad 82 = .ok (.getfield 7, 3) := by decide +kernel
theorem dX10_readLoad_85 : decode cX10_readLoad 85 = .ok (.iload_n 1, 1) := by decide +kernel
theorem dX10_readLoad_86 : decode cX10_readLoad 86 = .ok (.iconst 1, 1) := by decide +kernel
theorem dX10_readLoad_87 : decode cX10_readLoad 87 = .ok (.iadd, 1) := by decide +kernel
theorem dX10_readLoad_88 : decode cX10_readLoad 88 = .ok (.iaload, 1) := by decide +kernel
theorem dX10_readLoad_89 : decode cX10_readLoad 89 = .ok (.aload_n 0, 1) := by decide +kernel
theorem dX10_readLoad_90 : decode cX10_readLoad 90 = .ok (.getfield 7, 3) := by decide +kernel
theorem dX10_readLoad_93 : decode cX10_readLoad 93 = .ok (.bipush 6, 2) := by decide +kernel
theorem dX10_readLoad_95 : decode cX10_readLoad 95 = .ok (.iaload, 1) := by decide +kernel
theorem dX10_readLoad_96 : decode cX10_readLoad 96 = .ok (.iconst 1, 1) := by decide +kernel
theorem dX10_readLoad_97 : decode cX10_readLoad 97 = .ok (.isub, 1) := by decide +kernel
theorem dX10_readLoad_98 : decode cX10_readLoad 98 = .ok (.invokevirtual 291, 3) := by decide +kernel
theorem dX10_readLoad_101 : decode cX10_readLoad 101 = .ok (.ifCond .eq 30, 3) := by decide +kernel
theorem dX10_readLoad_104 : decode cX10_readLoad 104 = .ok (.aload_n 0, 1) := by decide +kernel
theorem dX10_readLoad_105 : decode cX10_readLoad 105 = .ok (.iload_n 1, 1) := by decide +kernel
theorem dX10_readLoad_106 : decode cX10_readLoad 106 = .ok (.iconst 3, 1) := by decide +kernel
theorem dX10_readLoad_107 : decode cX10_readLoad 107 = .ok (.iadd, 1) := by decide +kernel
theorem dX10_readLoad_108 : decode cX10_readLoad 108 = .ok (.iconst 1, 1) := by decide +kernel
theorem dX10_readLoad_109 : decode cX10_readLoad 109 = .ok (.bipush 30, 2) := by decide +kernel
theorem dX10_readLoad_111 : decode cX10_readLoad 111 = .ok (.invokevirtual 291, 3) := by decide +kernel
theorem dX10_readLoad_114 : decode cX10_readLoad 114 = .ok (.ifCond .eq 17, 3) := by decide +kernel
theorem dX10_readLoad_117 : decode cX10_readLoad 117 = .ok (.aload_n 0, 1) := by decide +kernel
theorem dX10_readLoad_118 : decode cX10_readLoad 118 = .ok (.iload_n 1, 1) := by decide +kernel
theorem dX10_readLoad_119 : decode cX10_readLoad 119 = .ok (.iconst 4, 1) := by decide +kernel
theorem dX10_readLoad_120 : decode cX10_readLoad 120 = .ok (.iadd, 1) := by decide +kernel
theorem dX10_readLoad_121 : decode cX10_readLoad 121 = .ok (.iconst 0, 1) := by decide +kernel
theorem dX10_readLoad_122 : decode cX10_readLoad 122 = .ok (.ldc_w 318, 3) := by decide +kernel
theorem dX10_readLoad_125 : decode cX10_readLoad 125 = .ok (.invokevirtual 291, 3) := by decide +kernel
theorem dX10_readLoad_128 : decode cX10_readLoad 128 = .ok (.ifCond .ne 5, 3) := by decide +kernel
theorem dX10_readLoad_131 : decode cX10_readLoad 131 = .ok (.iconst 0, 1) := by decide +kernel
theorem dX10_readLoad_132 : decode cX10_readLoad 132 = .ok (.ireturn, 1) := by decide +kernel
theorem dX10_readLoad_133 : decode cX10_readLoad 133 = .ok (.aload_n 0, 1) := by decide +kernel
theorem dX10_readLoad_134 : decode cX10_readLoad 134 = .ok (.getfield 7, 3) := by decide +kernel
theorem dX10_readLoad_137 : decode cX10_readLoad 137 = .ok (.iload_n 1, 1) := by decide +kernel
theorem dX10_readLoad_138 : decode cX10_readLoad 138 = .ok (.iconst 5, 1) := by decide +kernel
theorem dX10_readLoad_139 : decode cX10_readLoad 139 = .ok (.iadd, 1) := by decide +kernel
theorem dX10_readLoad_140 : decode cX10_readLoad 140 = .ok (.iconst 0, 1) := by decide +kernel
theorem dX10_readLoad_141 : decode cX10_readLoad 141 = .ok (.iastore, 1) := by decide +kernel
theorem dX10_readLoad_142 : decode cX10_readLoad 142 = .ok (.aload_n 0, 1) := by decide +kernel
theorem dX10_readLoad_143 : decode cX10_readLoad 143 = .ok (.getfield 7, 3) := by decide +kernel
theorem dX10_readLoad_146 : decode cX10_readLoad 146 = .ok (.bipush 9, 2) := by decide +kernel
theorem dX10_readLoad_148 : decode cX10_readLoad 148 = .ok (.dup2, 1) := by decide +kernel
theorem dX10_readLoad_149 : decode cX10_readLoad 149 = .ok (.iaload, 1) := by decide +kernel
theorem dX10_readLoad_150 : decode cX10_readLoad 150 = .ok (.iconst 1, 1) := by decide +kernel
theorem dX10_readLoad_151 : decode cX10_readLoad 151 = .ok (.iadd, 1) := by decide +kernel
theorem dX10_readLoad_152 : decode cX10_readLoad 152 = .ok (.iastore, 1) := by decide +kernel
theorem dX10_readLoad_153 : decode cX10_readLoad 153 = .ok (.aload_n 0, 1) := by decide +kernel
theorem dX10_readLoad_154 : decode cX10_readLoad 154 = .ok (.ldc_w 319, 3) := by decide +kernel
theorem dX10_readLoad_157 : decode cX10_readLoad 157 = .ok (.invokevirtual 287, 3) := by decide +kernel
theorem dX10_readLoad_160 : decode cX10_readLoad 160 = .ok (.ifCond .ne 5, 3) := by decide +kernel
theorem dX10_readLoad_163 : decode cX10_readLoad 163 = .ok (.iconst 1, 1) := by decide +kernel
theorem dX10_readLoad_164 : decode cX10_readLoad 164 = .ok (.ireturn, 1) := by decide +kernel
theorem dX10_readLoad_165 : decode cX10_readLoad 165 = .ok (.aload_n 0, 1) := by decide +kernel
theorem dX10_readLoad_166 : decode cX10_readLoad 166 = .ok (.invokevirtual 282, 3) := by decide +kernel
theorem dX10_readLoad_169 : decode cX10_readLoad 169 = .ok (.aload_n 0, 1) := by decide +kernel
theorem dX10_readLoad_170 : decode cX10_readLoad 170 = .ok (.iload_n 1, 1) := by decide +kernel
theorem dX10_readLoad_171 : decode cX10_readLoad 171 = .ok (.iconst 5, 1) := by decide +kernel
theorem dX10_readLoad_172 : decode cX10_readLoad 172 = .ok (.iadd, 1) := by decide +kernel
theorem dX10_readLoad_173 : decode cX10_readLoad 173 = .ok (.iconst 0, 1) := by decide +kernel
theorem dX10_readLoad_174 : decode cX10_readLoad 174 = .ok (.bipush 20, 2) := by decide +kernel
theorem dX10_readLoad_176 : decode cX10_readLoad 176 = .ok (.invokevirtual 291, 3) := by decide +kernel
theorem dX10_readLoad_179 : decode cX10_readLoad 179 = .ok (.ireturn, 1) := by decide +kernel
theorem dX10_readRut_0 : decode cX10_readRut 0 = .ok (.aload_n 0, 1) := by decide +kernel
theorem dX10_readRut_1 : decode cX10_readRut 1 = .ok (.invokevirtual 282, 3) := by decide +kernel
theorem dX10_readRut_4 : decode cX10_readRut 4 = .ok (.aload_n 0, 1) := by decide +kernel
theorem dX10_readRut_5 : decode cX10_readRut 5 = .ok (.invokevirtual 305, 3) := by decide +kernel
theorem dX10_readRut_8 : decode cX10_readRut 8 = .ok (.ifCond .ne 5, 3) := by decide +kernel
theorem dX10_readRut_11 : decode cX10_readRut 11 = .ok (.iconst 0, 1) := by decide +kernel
theorem dX10_readRut_12 : decode cX10_readRut 12 = .ok (.ireturn, 1) := by decide +kernel
theorem dX10_readRut_13 : decode cX10_readRut 13 = .ok (.aload_n 0, 1) := by decide +kernel
theorem dX10_readRut_14 : decode cX10_readRut 14 = .ok (.getfield 275, 3) := by decide +kernel
theorem dX10_readRut_17 : decode cX10_readRut 17 = .ok (.istore_n 1, 1) := by decide +kernel
theorem dX10_readRut_18 : decode cX10_readRut 18 = .ok (.aload_n 0, 1) := by decide +kernel
theorem dX10_readRut_19 : decode cX10_readRut 19 = .ok (.invokevirtual 282, 3) := by decide +kernel
theorem dX10_readRut_22 : decode cX10_readRut 22 = .ok (.aload_n 0, 1) := by decide +kernel
theorem dX10_readRut_23 : decode cX10_readRut 23 = .ok (.sipush 205, 3) := by decide +kernel
theorem dX10_readRut_26 : decode cX10_readRut 26 = .ok (.iconst 3, 1) := by decide +kernel
theorem dX10_readRut_27 : decode cX10_readRut 27 = .ok (.iload_n 1, 1) := by decide +kernel
theorem dX10_readRut_28 : decode cX10_readRut 28 = .ok (.imul, 1) := by decide +kernel
theorem dX10_readRut_29 : decode cX10_readRut 29 = .ok (.iadd, 1) := by decide +kernel
theorem dX10_readRut_30 : decode cX10_readRut 30 = .ok (.iconst 0, 1) := by decide +kernel
theorem dX10_readRut_31 : decode cX10_readRut 31 = .ok (.iadd, 1) := by decide +kernel
theorem dX10_readRut_32 : decode cX10_readRut 32 = .ok (.iconst 0, 1) := by decide +kernel
theorem dX10_readRut_33 : decode cX10_readRut 33 = .ok (.sipush 9999, 3) := by decide +kernel
theorem dX10_readRut_36 : decode cX10_readRut 36 = .ok (.invokevirtual 291, 3) := by decide +kernel
theorem dX10_readRut_39 : decode cX10_readRut 39 = .ok (.ireturn, 1) := by decide +kernel
theorem dX10_onceHere_0 : decode cX10_onceHere 0 = .ok (.aload_n 0, 1) := by decide +kernel
theorem dX10_onceHere_1 : decode cX10_onceHere 1 = .ok (.ldc_w 321, 3) := by decide +kernel
theorem dX10_onceHere_4 : decode cX10_onceHere 4 = .ok (.invokevirtual 287, 3) := by decide +kernel
theorem dX10_onceHere_7 : decode cX10_onceHere 7 = .ok (.ifCond .eq 7, 3) := by decide +kernel
theorem dX10_onceHere_10 : decode cX10_onceHere 10 = .ok (.iconst 0, 1) := by decide +kernel
theorem dX10_onceHere_11 : decode cX10_onceHere 11 = .ok (.goto 104, 3) := by decide +kernel
theorem dX10_onceHere_14 : decode cX10_onceHere 14 = .ok (.aload_n 0, 1) := by decide +kernel
theorem dX10_onceHere_15 : decode cX10_onceHere 15 = .ok (.ldc_w 323, 3) := by decide +kernel
theorem dX10_onceHere_18 : decode cX10_onceHere 18 = .ok (.invokevirtual 287, 3) := by decide +kernel
theorem dX10_onceHere_21 : decode cX10_onceHere 21 = .ok (.ifCond .eq 7, 3) := by decide +kernel
theorem dX10_onceHere_24 : decode cX10_onceHere 24 = .ok (.iconst 1, 1) := by decide +kernel
theorem dX10_onceHere_25 : decode cX10_onceHere 25 = .ok (.goto 90, 3) := by decide +kernel
theorem dX10_onceHere_28 : decode cX10_onceHere 28 = .ok (.aload_n 0, 1) := by decide +kernel
theorem dX10_onceHere_29 : decode cX10_onceHere 29 = .ok (.ldc_w 325, 3) := by decide +kernel
theorem dX10_onceHere_32 : decode cX10_onceHere 32 = .ok (.invokevirtual 287, 3) := by decide +kernel
theorem dX10_onceHere_35 : decode cX10_onceHere 35 = .ok (.ifCond .eq 7, 3) := by decide +kernel
theorem dX10_onceHere_38 : decode cX10_onceHere 38 = .ok (.iconst 2, 1) := by decide +kernel
theorem dX10_onceHere_39 : decode cX10_onceHere 39 = .ok (.goto 76, 3) := by decide +kernel
theorem dX10_onceHere_42 : decode cX10_onceHere 42 = .ok (.aload_n 0, 1) := by decide +kernel
theorem dX10_onceHere_43 : decode cX10_onceHere 43 = .ok (.ldc_w 327, 3) := by decide +kernel
theorem dX10_onceHere_46 : decode cX10_onceHere 46 = .ok (.invokevirtual 287, 3) := by decide +kernel
theorem dX10_onceHere_49 : decode cX10_onceHere 49 = .ok (.ifCond .eq 7, 3) := by decide +kernel
theorem dX10_onceHere_52 : decode cX10_onceHere 52 = .ok (.iconst 3, 1) := by decide +kernel
theorem dX10_onceHere_53 : decode cX10_onceHere 53 = .ok (.goto 62, 3) := by decide +kernel
theorem dX10_onceHere_56 : decode cX10_onceHere 56 = .ok (.aload_n 0, 1) := by decide +kernel
theorem dX10_onceHere_57 : decode cX10_onceHere 57 = .ok (.ldc_w 329, 3) := by decide +kernel
theorem dX10_onceHere_60 : decode cX10_onceHere 60 = .ok (.invokevirtual 287, 3) := by decide +kernel
theorem dX10_onceHere_63 : decode cX10_onceHere 63 = .ok (.ifCond .eq 7, 3) := by decide +kernel
theorem dX10_onceHere_66 : decode cX10_onceHere 66 = .ok (.iconst 4, 1) := by decide +kernel
theorem dX10_onceHere_67 : decode cX10_onceHere 67 = .ok (.goto 48, 3) := by decide +kernel
theorem dX10_onceHere_70 : decode cX10_onceHere 70 = .ok (.aload_n 0, 1) := by decide +kernel
theorem dX10_onceHere_71 : decode cX10_onceHere 71 = .ok (.ldc_w 331, 3) := by decide +kernel
theorem dX10_onceHere_74 : decode cX10_onceHere 74 = .ok (.invokevirtual 287, 3) := by decide +kernel
theorem dX10_onceHere_77 : decode cX10_onceHere 77 = .ok (.ifCond .eq 7, 3) := by decide +kernel
theorem dX10_onceHere_80 : decode cX10_onceHere 80 = .ok (.iconst 5, 1) := by decide +kernel
theorem dX10_onceHere_81 : decode cX10_onceHere 81 = .ok (.goto 34, 3) := by decide +kernel
theorem dX10_onceHere_84 : decode cX10_onceHere 84 = .ok (.aload_n 0, 1) := by decide +kernel
theorem dX10_onceHere_85 : decode cX10_onceHere 85 = .ok (.ldc_w 333, 3) := by decide +kernel
theorem dX10_onceHere_88 : decode cX10_onceHere 88 = .ok (.invokevirtual 287, 3) := by decide +kernel
theorem dX10_onceHere_91 : decode cX10_onceHere 91 = .ok (.ifCond .eq 8, 3) := by decide +kernel
theorem dX10_onceHere_94 : decode cX10_onceHere 94 = .ok (.bipush 11, 2) := by decide +kernel
theorem dX10_onceHere_96 : decode cX10_onceHere 96 = .ok (.goto 19, 3) := by decide +kernel
theorem dX10_onceHere_99 : decode cX10_onceHere 99 = .ok (.aload_n 0, 1) := by decide +kernel
theorem dX10_onceHere_100 : decode cX10_onceHere 100 = .ok (.ldc_w 335, 3) := by decide +kernel
theorem dX10_onceHere_103 : decode cX10_onceHere 103 = .ok (.invokevirtual 287, 3) := by decide +kernel
theorem dX10_onceHere_106 : decode cX10_onceHere 106 = .ok (.ifCond .eq 8, 3) := by decide +kernel
theorem dX10_onceHere_109 : decode cX10_onceHere 109 = .ok (.bipush 16, 2) := by decide +kernel
theorem dX10_onceHere_111 : decode cX10_onceHere 111 = .ok (.goto 4, 3) := by decide +kernel
theorem dX10_onceHere_114 : decode cX10_onceHere 114 = .ok (.iconst (-1), 1) := by decide +kernel
theorem dX10_onceHere_115 : decode cX10_onceHere 115 = .ok (.ireturn, 1) := by decide +kernel
theorem dX10_readOnce_0 : decode cX10_readOnce 0 = .ok (.aload_n 0, 1) := by decide +kernel
theorem dX10_readOnce_1 : decode cX10_readOnce 1 = .ok (.invokevirtual 337, 3) := by decide +kernel
theorem dX10_readOnce_4 : decode cX10_readOnce 4 = .ok (.istore_n 1, 1) := by decide +kernel
theorem dX10_readOnce_5 : decode cX10_readOnce 5 = .ok (.iload_n 1, 1) := by decide +kernel
theorem dX10_readOnce_6 : decode cX10_readOnce 6 = .ok (.iconst (-1), 1) := by decide +kernel
theorem dX10_readOnce_7 : decode cX10_readOnce 7 = .ok (.if_icmp .ne 9, 3) := by decide +kernel
theorem dX10_readOnce_10 : decode cX10_readOnce 10 = .ok (.aload_n 0, 1) := by decide +kernel
theorem dX10_readOnce_11 : decode cX10_readOnce 11 = .ok (.iconst 1, 1) := by decide +kernel
theorem dX10_readOnce_12 : decode cX10_readOnce 12 = .ok (.invokevirtual 272, 3) := by decide +kernel
theorem dX10_readOnce_15 : decode cX10_readOnce 15 = .ok (.ireturn, 1) := by decide +kernel
theorem dX10_readOnce_16 : decode cX10_readOnce 16 = .ok (.aload_n 0, 1) := by decide +kernel
theorem dX10_readOnce_17 : decode cX10_readOnce 17 = .ok (.getfield 340, 3) := by decide +kernel
theorem dX10_readOnce_20 : decode cX10_readOnce 20 = .ok (.iload_n 1, 1) := by decide +kernel
theorem dX10_readOnce_21 : decode cX10_readOnce 21 = .ok (.ishr, 1) := by decide +kernel
theorem dX10_readOnce_22 : decode cX10_readOnce 22 = .ok (.iconst 1, 1) := by decide +kernel
theorem dX10_readOnce_23 : decode cX10_readOnce 23 = .ok (.iand, 1) := by decide +kernel
theorem dX10_readOnce_24 : decode cX10_readOnce 24 = .ok (.iconst 1, 1) := by decide +kernel
theorem dX10_readOnce_25 : decode cX10_readOnce 25 = .ok (.if_icmp .ne 9, 3) := by decide +kernel
theorem dX10_readOnce_28 : decode cX10_readOnce 28 = .ok (.aload_n 0, 1) := by decide +kernel
theorem dX10_readOnce_29 : decode cX10_readOnce 29 = .ok (.iconst 3, 1) := by decide +kernel
theorem dX10_readOnce_30 : decode cX10_readOnce 30 = .ok (.invokevirtual 272, 3) := by decide +kernel
theorem dX10_readOnce_33 : decode cX10_readOnce 33 = .ok (.ireturn, 1) := by decide +kernel
theorem dX10_readOnce_34 : decode cX10_readOnce 34 = .ok (.aload_n 0, 1) := by decide +kernel
theorem dX10_readOnce_35 : decode cX10_readOnce 35 = .ok (.dup, 1) := by decide +kernel
theorem dX10_readOnce_36 : decode cX10_readOnce 36 = .ok (.getfield 340, 3) := by decide +kernel
theorem dX10_readOnce_39 : decode cX10_readOnce 39 = .ok (.iconst 1, 1) := by decide +kernel
theorem dX10_readOnce_40 : decode cX10_readOnce 40 = .ok (.iload_n 1, 1) := by decide +kernel
theorem dX10_readOnce_41 : decode cX10_readOnce 41 = .ok (.ishl, 1) := by decide +kernel
theorem dX10_readOnce_42 : decode cX10_readOnce 42 = .ok (.ior, 1) := by decide +kernel
theorem dX10_readOnce_43 : decode cX10_readOnce 43 = .ok (.putfield 340, 3) := by decide +kernel
theorem dX10_readOnce_46 : decode cX10_readOnce 46 = .ok (.aload_n 0, 1) := by decide +kernel
theorem dX10_readOnce_47 : decode cX10_readOnce 47 = .ok (.invokevirtual 282, 3) := by decide +kernel
theorem dX10_readOnce_50 : decode cX10_readOnce 50 = .ok (.iload_n 1, 1) := by decide +kernel
theorem dX10_readOnce_51 : decode cX10_readOnce 51 = .ok (.bipush 16, 2) := by decide +kernel
theorem dX10_readOnce_53 : decode cX10_readOnce 53 = .ok (.if_icmp .ne 10, 3) := by decide +kernel
theorem dX10_readOnce_56 : decode cX10_readOnce 56 = .ok (.aload_n 0, 1) := by decide +kernel
theorem dX10_readOnce_57 : decode cX10_readOnce 57 = .ok (.bipush 16, 2) := by decide +kernel
theorem dX10_readOnce_59 : decode cX10_readOnce 59 = .ok (.invokevirtual 315, 3) := by decide +kernel
theorem dX10_readOnce_62 : decode cX10_readOnce 62 = .ok (.ireturn, 1) := by decide +kernel
theorem dX10_readOnce_63 : decode cX10_readOnce 63 = .ok (.iload_n 1, 1) := by decide +kernel
theorem dX10_readOnce_64 : decode cX10_readOnce 64 = .ok (.bipush 11, 2) := by decide +kernel
theorem dX10_readOnce_66 : decode cX10_readOnce 66 = .ok (.if_icmp .ne 16, 3) := by decide +kernel
theorem dX10_readOnce_69 : decode cX10_readOnce 69 = .ok (.aload_n 0, 1) := by decide +kernel
theorem dX10_readOnce_70 : decode cX10_readOnce 70 = .ok (.bipush 11, 2) := by decide +kernel
theorem dX10_readOnce_72 : decode cX10_readOnce 72 = .ok (.iconst 0, 1) := by decide +kernel
theorem dX10_readOnce_73 : decode cX10_readOnce 73 = .ok (.ldc_w 318, 3) := by decide +kernel
theorem dX10_readOnce_76 : decode cX10_readOnce 76 = .ok (.invokevirtual 291, 3) := by decide +kernel
theorem dX10_readOnce_79 : decode cX10_readOnce 79 = .ok (.goto 16, 3) := by decide +kernel
theorem dX10_readOnce_82 : decode cX10_readOnce 82 = .ok (.aload_n 0, 1) := by decide +kernel
theorem dX10_readOnce_83 : decode cX10_readOnce 83 = .ok (.iload_n 1, 1) := by decide +kernel
theorem dX10_readOnce_84 : decode cX10_readOnce 84 = .ok (.iload_n 1, 1) := by decide +kernel
theorem dX10_readOnce_85 : decode cX10_readOnce 85 = .ok (.invokestatic 343, 3) := by decide +kernel
theorem dX10_readOnce_88 : decode cX10_readOnce 88 = .ok (.iload_n 1, 1) := by decide +kernel
theorem dX10_readOnce_89 : decode cX10_readOnce 89 = .ok (.invokestatic 346, 3) := by decide +kernel
theorem dX10_readOnce_92 : decode cX10_readOnce 92 = .ok (.invokevirtual 291, 3) := by decide +kernel
theorem dX10_readOnce_95 : decode cX10_readOnce 95 = .ok (.ireturn, 1) := by decide +kernel
theorem dX10_readText_0 : decode cX10_readText 0 = .ok (.aload_n 0, 1) := by decide +kernel
theorem dX10_readText_1 : decode cX10_readText 1 = .ok (.invokevirtual 349, 3) := by decide +kernel
theorem dX10_readText_4 : decode cX10_readText 4 = .ok (.istore_n 1, 1) := by decide +kernel
theorem dX10_readText_5 : decode cX10_readText 5 = .ok (.iload_n 1, 1) := by decide +kernel
theorem dX10_readText_6 : decode cX10_readText 6 = .ok (.ifCond .eq 89, 3) := by decide +kernel
theorem dX10_readText_9 : decode cX10_readText 9 = .ok (.aload_n 0, 1) := by decide +kernel
theorem dX10_readText_10 : decode cX10_readText 10 = .ok (.getfield 243, 3) := by decide +kernel
theorem dX10_readText_13 : decode cX10_readText 13 = .ok (.iconst 3, 1) := by decide +kernel
theorem dX10_readText_14 : decode cX10_readText 14 = .ok (.if_icmp .eq 9, 3) := by decide +kernel
theorem dX10_readText_17 : decode cX10_readText 17 = .ok (.aload_n 0, 1) := by decide +kernel
theorem dX10_readText_18 : decode cX10_readText 18 = .ok (.iconst 1, 1) := by decide +kernel
theorem dX10_readText_19 : decode cX10_readText 19 = .ok (.invokevirtual 272, 3) := by decide +kernel
theorem dX10_readText_22 : decode cX10_readText 22 = .ok (.ireturn, 1) := by decide +kernel
theorem dX10_readText_23 : decode cX10_readText 23 = .ok (.aload_n 0, 1) := by decide +kernel
theorem dX10_readText_24 : decode cX10_readText 24 = .ok (.invokevirtual 282, 3) := by decide +kernel
theorem dX10_readText_27 : decode cX10_readText 27 = .ok (.aload_n 0, 1) := by decide +kernel
theorem dX10_readText_28 : decode cX10_readText 28 = .ok (.getfield 243, 3) := by decide +kernel
theorem dX10_readText_31 : decode cX10_readText 31 = .ok (.ifCond .ne 5, 3) := by decide +kernel
theorem dX10_readText_34 : decode cX10_readText 34 = .ok (.iconst 1, 1) := by decide +kernel
theorem dX10_readText_35 : decode cX10_readText 35 = .ok (.ireturn, 1) := by decide +kernel
theorem dX10_readText_36 : decode cX10_readText 36 = .ok (.aload_n 0, 1) := by decide +kernel
theorem dX10_readText_37 : decode cX10_readText 37 = .ok (.ldc_w 352, 3) := by decide +kernel
theorem dX10_readText_40 : decode cX10_readText 40 = .ok (.invokevirtual 287, 3) := by decide +kernel
theorem dX10_readText_43 : decode cX10_readText 43 = .ok (.ifCond .eq 10, 3) := by decide +kernel
theorem dX10_readText_46 : decode cX10_readText 46 = .ok (.aload_n 0, 1) := by decide +kernel
theorem dX10_readText_47 : decode cX10_readText 47 = .ok (.invokevirtual 354, 3) := by decide +kernel
theorem dX10_readText_50 : decode cX10_readText 50 = .ok (.goto 41, 3) := by decide +kernel
theorem dX10_readText_53 : decode cX10_readText 53 = .ok (.aload_n 0, 1) := by decide +kernel
theorem dX10_readText_54 : decode cX10_readText 54 = .ok (.ldc_w 357, 3) := by decide +kernel
theorem dX10_readText_57 : decode cX10_readText 57 = .ok (.invokevirtual 287, 3) := by decide +kernel
theorem dX10_readText_60 : decode cX10_readText 60 = .ok (.ifCond .eq 10, 3) := by decide +kernel
theorem dX10_readText_63 : decode cX10_readText 63 = .ok (.aload_n 0, 1) := by decide +kernel
theorem dX10_readText_64 : decode cX10_readText 64 = .ok (.invokevirtual 359, 3) := by decide +kernel
theorem dX10_readText_67 : decode cX10_readText 67 = .ok (.goto 24, 3) := by decide +kernel
theorem dX10_readText_70 : decode cX10_readText 70 = .ok (.aload_n 0, 1) := by decide +kernel
theorem dX10_readText_71 : decode cX10_readText 71 = .ok (.ldc_w 362, 3) := by decide +kernel
theorem dX10_readText_74 : decode cX10_readText 74 = .ok (.invokevirtual 287, 3) := by decide +kernel
theorem dX10_readText_77 : decode cX10_readText 77 = .ok (.ifCond .eq 10, 3) := by decide +kernel
theorem dX10_readText_80 : decode cX10_readText 80 = .ok (.aload_n 0, 1) := by decide +kernel
theorem dX10_readText_81 : decode cX10_readText 81 = .ok (.invokevirtual 364, 3) := by decide +kernel
theorem dX10_readText_84 : decode cX10_readText 84 = .ok (.goto 7, 3) := by decide +kernel
theorem dX10_readText_87 : decode cX10_readText 87 = .ok (.aload_n 0, 1) := by decide +kernel
theorem dX10_readText_88 : decode cX10_readText 88 = .ok (.invokevirtual 367, 3) := by decide +kernel
theorem dX10_readText_91 : decode cX10_readText 91 = .ok (.istore_n 1, 1) := by decide +kernel
theorem dX10_readText_92 : decode cX10_readText 92 = .ok (.goto (-87), 3) := by decide +kernel
theorem dX10_readText_95 : decode cX10_readText 95 = .ok (.iconst 0, 1) := by decide +kernel
theorem dX10_readText_96 : decode cX10_readText 96 = .ok (.ireturn, 1) := by decide +kernel
theorem dX10_loadRoad_0 : decode cX10_loadRoad 0 = .ok (.aload_n 0, 1) := by decide +kernel
theorem dX10_loadRoad_1 : decode cX10_loadRoad 1 = .ok (.iconst 0, 1) := by decide +kernel
theorem dX10_loadRoad_2 : decode cX10_loadRoad 2 = .ok (.putfield 54, 3) := by decide +kernel
theorem dX10_loadRoad_5 : decode cX10_loadRoad 5 = .ok (.aload_n 0, 1) := by decide +kernel
theorem dX10_loadRoad_6 : decode cX10_loadRoad 6 = .ok (.getfield 7, 3) := by decide +kernel
theorem dX10_loadRoad_9 : decode cX10_loadRoad 9 = .ok (.iconst 0, 1) := by decide +kernel
theorem dX10_loadRoad_10 : decode cX10_loadRoad 10 = .ok (.aload_n 0, 1) := by decide +kernel
theorem dX10_loadRoad_11 : decode cX10_loadRoad 11 = .ok (.getfield 13, 3) := by decide +kernel
theorem dX10_loadRoad_14 : decode cX10_loadRoad 14 = .ok (.iconst 0, 1) := by decide +kernel
theorem dX10_loadRoad_15 : decode cX10_loadRoad 15 = .ok (.sipush 400, 3) := by decide +kernel
theorem dX10_loadRoad_18 : decode cX10_loadRoad 18 = .ok (.invokestatic 60, 3) := by decide +kernel
theorem dX10_loadRoad_21 : decode cX10_loadRoad 21 = .ok (.aload_n 0, 1) := by decide +kernel
theorem dX10_loadRoad_22 : decode cX10_loadRoad 22 = .ok (.invokevirtual 51, 3) := by decide +kernel
theorem dX10_loadRoad_25 : decode cX10_loadRoad 25 = .ok (.aload_n 0, 1) := by decide +kernel
theorem dX10_loadRoad_26 : decode cX10_loadRoad 26 = .ok (.iconst 0, 1) := by decide +kernel
theorem dX10_loadRoad_27 : decode cX10_loadRoad 27 = .ok (.putfield 254, 3) := by decide +kernel
theorem dX10_loadRoad_30 : decode cX10_loadRoad 30 = .ok (.aload_n 0, 1) := by decide +kernel
theorem dX10_loadRoad_31 : decode cX10_loadRoad 31 = .ok (.iconst (-1), 1) := by decide +kernel
theorem dX10_loadRoad_32 : decode cX10_loadRoad 32 = .ok (.putfield 257, 3) := by decide +kernel
theorem dX10_loadRoad_35 : decode cX10_loadRoad 35 = .ok (.aload_n 0, 1) := by decide +kernel
theorem dX10_loadRoad_36 : decode cX10_loadRoad 36 = .ok (.iconst 0, 1) := by decide +kernel
theorem dX10_loadRoad_37 : decode cX10_loadRoad 37 = .ok (.putfield 231, 3) := by decide +kernel
theorem dX10_loadRoad_40 : decode cX10_loadRoad 40 = .ok (.aload_n 0, 1) := by decide +kernel
theorem dX10_loadRoad_41 : decode cX10_loadRoad 41 = .ok (.iconst 0, 1) := by decide +kernel
theorem dX10_loadRoad_42 : decode cX10_loadRoad 42 = .ok (.putfield 340, 3) := by decide +kernel
theorem dX10_loadRoad_45 : decode cX10_loadRoad 45 = .ok (.aload_n 0, 1) := by decide +kernel
theorem dX10_loadRoad_46 : decode cX10_loadRoad 46 = .ok (.invokevirtual 282, 3) := by decide +kernel
theorem dX10_loadRoad_49 : decode cX10_loadRoad 49 = .ok (.aload_n 0, 1) := by decide +kernel
theorem dX10_loadRoad_50 : decode cX10_loadRoad 50 = .ok (.invokevirtual 370, 3) := by decide +kernel
theorem dX10_loadRoad_53 : decode cX10_loadRoad 53 = .ok (.istore_n 1, 1) := by decide +kernel
theorem dX10_loadRoad_54 : decode cX10_loadRoad 54 = .ok (.aload_n 0, 1) := by decide +kernel
theorem dX10_loadRoad_55 : decode cX10_loadRoad 55 = .ok (.iconst 0, 1) := by decide +kernel
theorem dX10_loadRoad_56 : decode cX10_loadRoad 56 = .ok (.putfield 225, 3) := by decide +kernel
theorem dX10_loadRoad_59 : decode cX10_loadRoad 59 = .ok (.aload_n 0, 1) := by decide +kernel
theorem dX10_loadRoad_60 : decode cX10_loadRoad 60 = .ok (.aload_n 0, 1) := by decide +kernel
theorem dX10_loadRoad_61 : decode cX10_loadRoad 61 = .ok (.getfield 254, 3) := by decide +kernel
theorem dX10_loadRoad_64 : decode cX10_loadRoad 64 = .ok (.putfield 373, 3) := by decide +kernel
theorem dX10_loadRoad_67 : decode cX10_loadRoad 67 = .ok (.aload_n 0, 1) := by decide +kernel
theorem dX10_loadRoad_68 : decode cX10_loadRoad 68 = .ok (.aload_n 0, 1) := by decide +kernel
theorem dX10_loadRoad_69 : decode cX10_loadRoad 69 = .ok (.getfield 257, 3) := by decide +kernel
theorem dX10_loadRoad_72 : decode cX10_loadRoad 72 = .ok (.putfield 38, 3) := by decide +kernel
theorem dX10_loadRoad_75 : decode cX10_loadRoad 75 = .ok (.iload_n 1, 1) := by decide +kernel
theorem dX10_loadRoad_76 : decode cX10_loadRoad 76 = .ok (.ifCond .ne 21, 3) := by decide +kernel
theorem dX10_loadRoad_79 : decode cX10_loadRoad 79 = .ok (.aload_n 0, 1) := by decide +kernel
theorem dX10_loadRoad_80 : decode cX10_loadRoad 80 = .ok (.getfield 13, 3) := by decide +kernel
theorem dX10_loadRoad_83 : decode cX10_loadRoad 83 = .ok (.iconst 0, 1) := by decide +kernel
theorem dX10_loadRoad_84 : decode cX10_loadRoad 84 = .ok (.aload_n 0, 1) := by decide +kernel
theorem dX10_loadRoad_85 : decode cX10_loadRoad 85 = .ok (.getfield 7, 3) := by decide +kernel
theorem dX10_loadRoad_88 : decode cX10_loadRoad 88 = .ok (.iconst 0, 1) := by decide +kernel
theorem dX10_loadRoad_89 : decode cX10_loadRoad 89 = .ok (.sipush 400, 3) := by decide +kernel
theorem dX10_loadRoad_92 : decode cX10_loadRoad 92 = .ok (.invokestatic 60, 3) := by decide +kernel
theorem dX10_loadRoad_95 : decode cX10_loadRoad 95 = .ok (.iconst (-1), 1) := by decide +kernel
theorem dX10_loadRoad_96 : decode cX10_loadRoad 96 = .ok (.ireturn, 1) := by decide +kernel
theorem dX10_loadRoad_97 : decode cX10_loadRoad 97 = .ok (.iconst 0, 1) := by decide +kernel
theorem dX10_loadRoad_98 : decode cX10_loadRoad 98 = .ok (.istore_n 2, 1) := by decide +kernel
theorem dX10_loadRoad_99 : decode cX10_loadRoad 99 = .ok (.iload_n 2, 1) := by decide +kernel
theorem dX10_loadRoad_100 : decode cX10_loadRoad 100 = .ok (.bipush 64, 2) := by decide +kernel
theorem dX10_loadRoad_102 : decode cX10_loadRoad 102 = .ok (.if_icmp .ge 16, 3) := by decide +kernel
theorem dX10_loadRoad_105 : decode cX10_loadRoad 105 = .ok (.aload_n 0, 1) := by decide +kernel
theorem dX10_loadRoad_106 : decode cX10_loadRoad 106 = .ok (.getfield 22, 3) := by decide +kernel
theorem dX10_loadRoad_109 : decode cX10_loadRoad 109 = .ok (.iload_n 2, 1) := by decide +kernel
theorem dX10_loadRoad_110 : decode cX10_loadRoad 110 = .ok (.lconst 0, 1) := by decide +kernel
theorem dX10_loadRoad_111 : decode cX10_loadRoad 111 = .ok (.lastore, 1) := by decide +kernel
theorem dX10_loadRoad_112 : decode cX10_loadRoad 112 = .ok (.iinc 2 1, 3) := by decide +kernel
theorem dX10_loadRoad_115 : decode cX10_loadRoad 115 = .ok (.goto (-16), 3) := by decide +kernel
theorem dX10_loadRoad_118 : decode cX10_loadRoad 118 = .ok (.aload_n 0, 1) := by decide +kernel
theorem dX10_loadRoad_119 : decode cX10_loadRoad 119 = .ok (.iconst 0, 1) := by decide +kernel
theorem dX10_loadRoad_120 : decode cX10_loadRoad 120 = .ok (.putfield 57, 3) := by decide +kernel
theorem dX10_loadRoad_123 : decode cX10_loadRoad 123 = .ok (.aload_n 0, 1) := by decide +kernel
theorem dX10_loadRoad_124 : decode cX10_loadRoad 124 = .ok (.iconst 0, 1) := by decide +kernel
theorem dX10_loadRoad_125 : decode cX10_loadRoad 125 = .ok (.putfield 376, 3) := by decide +kernel
theorem dX10_loadRoad_128 : decode cX10_loadRoad 128 = .ok (.aload_n 0, 1) := by decide +kernel
theorem dX10_loadRoad_129 : decode cX10_loadRoad 129 = .ok (.invokevirtual 191, 3) := by decide +kernel
theorem dX10_loadRoad_132 : decode cX10_loadRoad 132 = .ok (.ireturn, 1) := by decide +kernel
theorem dX10_errorCode_0 : decode cX10_errorCode 0 = .ok (.aload_n 0, 1) := by decide +kernel
theorem dX10_errorCode_1 : decode cX10_errorCode 1 = .ok (.iconst 0, 1) := by decide +kernel
theorem dX10_errorCode_2 : decode cX10_errorCode 2 = .ok (.putfield 54, 3) := by decide +kernel
theorem dX10_errorCode_5 : decode cX10_errorCode 5 = .ok (.aload_n 0, 1) := by decide +kernel
theorem dX10_errorCode_6 : decode cX10_errorCode 6 = .ok (.getfield 373, 3) := by decide +kernel
theorem dX10_errorCode_9 : decode cX10_errorCode 9 = .ok (.ireturn, 1) := by decide +kernel
theorem dX10_errorOffset_0 : decode cX10_errorOffset 0 = .ok (.aload_n 0, 1) := by decide +kernel
theorem dX10_errorOffset_1 : decode cX10_errorOffset 1 = .ok (.iconst 0, 1) := by decide +kernel
theorem dX10_errorOffset_2 : decode cX10_errorOffset 2 = .ok (.putfield 54, 3) := by decide +kernel
theorem dX10_errorOffset_5 : decode cX10_errorOffset 5 = .ok (.aload_n 0, 1) := by decide +kernel
theorem dX10_errorOffset_6 : decode cX10_errorOffset 6 = .ok (.getfield 38, 3) := by decide +kernel
theorem dX10_errorOffset_9 : decode cX10_errorOffset 9 = .ok (.ireturn, 1) := by decide +kernel
theorem dX10_noCell_0 : decode cX10_noCell 0 = .ok (.aload_n 0, 1) := by decide +kernel
theorem dX10_noCell_1 : decode cX10_noCell 1 = .ok (.iconst 0, 1) := by decide +kernel
theorem dX10_noCell_2 : decode cX10_noCell 2 = .ok (.putfield 54, 3) := by decide +kernel
theorem dX10_noCell_5 : decode cX10_noCell 5 = .ok (.aload_n 0, 1) := by decide +kernel
theorem dX10_noCell_6 : decode cX10_noCell 6 = .ok (.iload_n 1, 1) := by decide +kernel
theorem dX10_noCell_7 : decode cX10_noCell 7 = .ok (.i2l, 1) := by decide +kernel
theorem dX10_noCell_8 : decode cX10_noCell 8 = .ok (.lconst 0, 1) := by decide +kernel
theorem dX10_noCell_9 : decode cX10_noCell 9 = .ok (.aload_n 0, 1) := by decide +kernel
theorem dX10_noCell_10 : decode cX10_noCell 10 = .ok (.invokevirtual 191, 3) := by decide +kernel
theorem dX10_noCell_13 : decode cX10_noCell 13 = .ok (.iconst 1, 1) := by decide +kernel
theorem dX10_noCell_14 : decode cX10_noCell 14 = .ok (.isub, 1) := by decide +kernel
theorem dX10_noCell_15 : decode cX10_noCell 15 = .ok (.i2l, 1) := by decide +kernel
theorem dX10_noCell_16 : decode cX10_noCell 16 = .ok (.invokestatic 129, 3) := by decide +kernel
theorem dX10_noCell_19 : decode cX10_noCell 19 = .ok (.ifCond .ne 7, 3) := by decide +kernel
theorem dX10_noCell_22 : decode cX10_noCell 22 = .ok (.iconst 1, 1) := by decide +kernel
theorem dX10_noCell_23 : decode cX10_noCell 23 = .ok (.goto 4, 3) := by decide +kernel
theorem dX10_noCell_26 : decode cX10_noCell 26 = .ok (.iconst 0, 1) := by decide +kernel
theorem dX10_noCell_27 : decode cX10_noCell 27 = .ok (.iconst 1, 1) := by decide +kernel
theorem dX10_noCell_28 : decode cX10_noCell 28 = .ok (.invokevirtual 380, 3) := by decide +kernel
theorem dX10_noCell_31 : decode cX10_noCell 31 = .ok (.ireturn, 1) := by decide +kernel
theorem dX10_noCore_0 : decode cX10_noCore 0 = .ok (.aload_n 0, 1) := by decide +kernel
theorem dX10_noCore_1 : decode cX10_noCore 1 = .ok (.iconst 0, 1) := by decide +kernel
theorem dX10_noCore_2 : decode cX10_noCore 2 = .ok (.putfield 54, 3) := by decide +kernel
theorem dX10_noCore_5 : decode cX10_noCore 5 = .ok (.aload_n 0, 1) := by decide +kernel
theorem dX10_noCore_6 : decode cX10_noCore 6 = .ok (.iload_n 1, 1) := by decide +kernel
theorem dX10_noCore_7 : decode cX10_noCore 7 = .ok (.i2l, 1) := by decide +kernel
theorem dX10_noCore_8 : decode cX10_noCore 8 = .ok (.lconst 0, 1) := by decide +kernel
theorem dX10_noCore_9 : decode cX10_noCore 9 = .ok (.aload_n 0, 1) := by decide +kernel
theorem dX10_noCore_10 : decode cX10_noCore 10 = .ok (.getfield 7, 3) := by decide +kernel
theorem dX10_noCore_13 : decode cX10_noCore 13 = .ok (.bipush 8, 2) := by decide +kernel
theorem dX10_noCore_15 : decode cX10_noCore 15 = .ok (.iaload, 1) := by decide +kernel
theorem dX10_noCore_16 : decode cX10_noCore 16 = .ok (.iconst 1, 1) := by decide +kernel
theorem dX10_noCore_17 : decode cX10_noCore 17 = .ok (.isub, 1) := by decide +kernel
theorem dX10_noCore_18 : decode cX10_noCore 18 = .ok (.i2l, 1) := by decide +kernel
theorem dX10_noCore_19 : decode cX10_noCore 19 = .ok (.invokestatic 129, 3) := by decide +kernel
theorem dX10_noCore_22 : decode cX10_noCore 22 = .ok (.ifCond .ne 7, 3) := by decide +kernel
theorem dX10_noCore_25 : decode cX10_noCore 25 = .ok (.iconst 1, 1) := by decide +kernel
theorem dX10_noCore_26 : decode cX10_noCore 26 = .ok (.goto 4, 3) := by decide +kernel
theorem dX10_noCore_29 : decode cX10_noCore 29 = .ok (.iconst 0, 1) := by decide +kernel
theorem dX10_noCore_30 : decode cX10_noCore 30 = .ok (.iconst 1, 1) := by decide +kernel
theorem dX10_noCore_31 : decode cX10_noCore 31 = .ok (.invokevirtual 380, 3) := by decide +kernel
theorem dX10_noCore_34 : decode cX10_noCore 34 = .ok (.ireturn, 1) := by decide +kernel
theorem dX10_noLoad_0 : decode cX10_noLoad 0 = .ok (.aload_n 0, 1) := by decide +kernel
theorem dX10_noLoad_1 : decode cX10_noLoad 1 = .ok (.iconst 0, 1) := by decide +kernel
theorem dX10_noLoad_2 : decode cX10_noLoad 2 = .ok (.putfield 54, 3) := by decide +kernel
theorem dX10_noLoad_5 : decode cX10_noLoad 5 = .ok (.aload_n 0, 1) := by decide +kernel
theorem dX10_noLoad_6 : decode cX10_noLoad 6 = .ok (.iload_n 1, 1) := by decide +kernel
theorem dX10_noLoad_7 : decode cX10_noLoad 7 = .ok (.i2l, 1) := by decide +kernel
theorem dX10_noLoad_8 : decode cX10_noLoad 8 = .ok (.lconst 0, 1) := by decide +kernel
theorem dX10_noLoad_9 : decode cX10_noLoad 9 = .ok (.aload_n 0, 1) := by decide +kernel
theorem dX10_noLoad_10 : decode cX10_noLoad 10 = .ok (.getfield 7, 3) := by decide +kernel
theorem dX10_noLoad_13 : decode cX10_noLoad 13 = .ok (.bipush 9, 2) := by decide +kernel
theorem dX10_noLoad_15 : decode cX10_noLoad 15 = .ok (.iaload, 1) := by decide +kernel
theorem dX10_noLoad_16 : decode cX10_noLoad 16 = .ok (.iconst 1, 1) := by decide +kernel
theorem dX10_noLoad_17 : decode cX10_noLoad 17 = .ok (.isub, 1) := by decide +kernel
theorem dX10_noLoad_18 : decode cX10_noLoad 18 = .ok (.i2l, 1) := by decide +kernel
theorem dX10_noLoad_19 : decode cX10_noLoad 19 = .ok (.invokestatic 129, 3) := by decide +kernel
theorem dX10_noLoad_22 : decode cX10_noLoad 22 = .ok (.ifCond .ne 7, 3) := by decide +kernel
theorem dX10_noLoad_25 : decode cX10_noLoad 25 = .ok (.iconst 1, 1) := by decide +kernel
theorem dX10_noLoad_26 : decode cX10_noLoad 26 = .ok (.goto 4, 3) := by decide +kernel
theorem dX10_noLoad_29 : decode cX10_noLoad 29 = .ok (.iconst 0, 1) := by decide +kernel
theorem dX10_noLoad_30 : decode cX10_noLoad 30 = .ok (.iconst 1, 1) := by decide +kernel
theorem dX10_noLoad_31 : decode cX10_noLoad 31 = .ok (.invokevirtual 380, 3) := by decide +kernel
theorem dX10_noLoad_34 : decode cX10_noLoad 34 = .ok (.ireturn, 1) := by decide +kernel
theorem dX10_noLane_0 : decode cX10_noLane 0 = .ok (.aload_n 0, 1) := by decide +kernel
theorem dX10_noLane_1 : decode cX10_noLane 1 = .ok (.iconst 0, 1) := by decide +kernel
theorem dX10_noLane_2 : decode cX10_noLane 2 = .ok (.putfield 54, 3) := by decide +kernel
theorem dX10_noLane_5 : decode cX10_noLane 5 = .ok (.aload_n 0, 1) := by decide +kernel
theorem dX10_noLane_6 : decode cX10_noLane 6 = .ok (.iload_n 1, 1) := by decide +kernel
theorem dX10_noLane_7 : decode cX10_noLane 7 = .ok (.i2l, 1) := by decide +kernel
theorem dX10_noLane_8 : decode cX10_noLane 8 = .ok (.lconst 0, 1) := by decide +kernel
theorem dX10_noLane_9 : decode cX10_noLane 9 = .ok (.aload_n 0, 1) := by decide +kernel
theorem dX10_noLane_10 : decode cX10_noLane 10 = .ok (.getfield 7, 3) := by decide +kernel
theorem dX10_noLane_13 : decode cX10_noLane 13 = .ok (.bipush 7, 2) := by decide +kernel
theorem dX10_noLane_15 : decode cX10_noLane 15 = .ok (.iaload, 1) := by decide +kernel
theorem dX10_noLane_16 : decode cX10_noLane 16 = .ok (.iconst 1, 1) := by decide +kernel
theorem dX10_noLane_17 : decode cX10_noLane 17 = .ok (.isub, 1) := by decide +kernel
theorem dX10_noLane_18 : decode cX10_noLane 18 = .ok (.i2l, 1) := by decide +kernel
theorem dX10_noLane_19 : decode cX10_noLane 19 = .ok (.invokestatic 129, 3) := by decide +kernel
theorem dX10_noLane_22 : decode cX10_noLane 22 = .ok (.ifCond .ne 7, 3) := by decide +kernel
theorem dX10_noLane_25 : decode cX10_noLane 25 = .ok (.iconst 1, 1) := by decide +kernel
theorem dX10_noLane_26 : decode cX10_noLane 26 = .ok (.goto 4, 3) := by decide +kernel
theorem dX10_noLane_29 : decode cX10_noLane 29 = .ok (.iconst 0, 1) := by decide +kernel
theorem dX10_noLane_30 : decode cX10_noLane 30 = .ok (.iconst 1, 1) := by decide +kernel
theorem dX10_noLane_31 : decode cX10_noLane 31 = .ok (.invokevirtual 380, 3) := by decide +kernel
theorem dX10_noLane_34 : decode cX10_noLane 34 = .ok (.ireturn, 1) := by decide +kernel
theorem dX10_noYears_0 : decode cX10_noYears 0 = .ok (.aload_n 0, 1) := by decide +kernel
theorem dX10_noYears_1 : decode cX10_noYears 1 = .ok (.iload_n 1, 1) := by decide +kernel
theorem dX10_noYears_2 : decode cX10_noYears 2 = .ok (.i2l, 1) := by decide +kernel
theorem dX10_noYears_3 : decode cX10_noYears 3 = .ok (.lconst 1, 1) := by decide +kernel
theorem dX10_noYears_4 : decode cX10_noYears 4 = .ok (.ldc2_w 384, 3) := by decide +kernel
theorem dX10_noYears_7 : decode cX10_noYears 7 = .ok (.invokestatic 129, 3) := by decide +kernel
theorem dX10_noYears_10 : decode cX10_noYears 10 = .ok (.ifCond .ne 7, 3) := by decide +kernel
theorem dX10_noYears_13 : decode cX10_noYears 13 = .ok (.iconst 1, 1) := by decide +kernel
theorem dX10_noYears_14 : decode cX10_noYears 14 = .ok (.goto 4, 3) := by decide +kernel
theorem dX10_noYears_17 : decode cX10_noYears 17 = .ok (.iconst 0, 1) := by decide +kernel
theorem dX10_noYears_18 : decode cX10_noYears 18 = .ok (.iload_n 2, 1) := by decide +kernel
theorem dX10_noYears_19 : decode cX10_noYears 19 = .ok (.invokevirtual 380, 3) := by decide +kernel
theorem dX10_noYears_22 : decode cX10_noYears 22 = .ok (.ireturn, 1) := by decide +kernel
theorem dX10_noPatch_0 : decode cX10_noPatch 0 = .ok (.aload_n 0, 1) := by decide +kernel
theorem dX10_noPatch_1 : decode cX10_noPatch 1 = .ok (.iload_n 2, 1) := by decide +kernel
theorem dX10_noPatch_2 : decode cX10_noPatch 2 = .ok (.invokevirtual 386, 3) := by decide +kernel
theorem dX10_noPatch_5 : decode cX10_noPatch 5 = .ok (.ifCond .ne 47, 3) := by decide +kernel
theorem dX10_noPatch_8 : decode cX10_noPatch 8 = .ok (.aload_n 0, 1) := by decide +kernel
theorem dX10_noPatch_9 : decode cX10_noPatch 9 = .ok (.iload_n 1, 1) := by decide +kernel
theorem dX10_noPatch_10 : decode cX10_noPatch 10 = .ok (.i2l, 1) := by decide +kernel
theorem dX10_noPatch_11 : decode cX10_noPatch 11 = .ok (.lconst 1, 1) := by decide +kernel
theorem dX10_noPatch_12 : decode cX10_noPatch 12 = .ok (.ldc2_w 389, 3) := by decide +kernel
theorem dX10_noPatch_15 : decode cX10_noPatch 15 = .ok (.invokestatic 129, 3) := by decide +kernel
theorem dX10_noPatch_18 : decode cX10_noPatch 18 = .ok (.ifCond .eq 22, 3) := by decide +kernel
theorem dX10_noPatch_21 : decode cX10_noPatch 21 = .ok (.iload_n 1, 1) := by decide +kernel
theorem dX10_noPatch_22 : decode cX10_noPatch 22 = .ok (.iconst 2, 1) := by decide +kernel
theorem dX10_noPatch_23 : decode cX10_noPatch 23 = .ok (.if_icmp .ne 21, 3) := by decide +kernel
theorem dX10_noPatch_26 : decode cX10_noPatch 26 = .ok (.iload_n 3, 1) := by decide +kernel
theorem dX10_noPatch_27 : decode cX10_noPatch 27 = .ok (.i2l, 1) := by decide +kernel
theorem dX10_noPatch_28 : decode cX10_noPatch 28 = .ok (.ldc2_w 391, 3) := by decide +kernel
theorem dX10_noPatch_31 : decode cX10_noPatch 31 = .ok (.ldc2_w 117, 3) := by decide +kernel
theorem dX10_noPatch_34 : decode cX10_noPatch 34 = .ok (.invokestatic 129, 3) := by decide +kernel
theorem dX10_noPatch_37 : decode cX10_noPatch 37 = .ok (.ifCond .ne 7, 3) := by decide +kernel
theorem dX10_noPatch_40 : decode cX10_noPatch 40 = .ok (.iconst 1, 1) := by decide +kernel
theorem dX10_noPatch_41 : decode cX10_noPatch 41 = .ok (.goto 4, 3) := by decide +kernel
theorem dX10_noPatch_44 : decode cX10_noPatch 44 = .ok (.iconst 0, 1) := by decide +kernel
theorem dX10_noPatch_45 : decode cX10_noPatch 45 = .ok (.iconst 2, 1) := by decide +kernel
theorem dX10_noPatch_46 : decode cX10_noPatch 46 = .ok (.invokevirtual 380, 3) := by decide +kernel
theorem dX10_noPatch_49 : decode cX10_noPatch 49 = .ok (.ifCond .eq 7, 3) := by decide +kernel
theorem dX10_noPatch_52 : decode cX10_noPatch 52 = .ok (.iconst 1, 1) := by decide +kernel
theorem dX10_noPatch_53 : decode cX10_noPatch 53 = .ok (.goto 4, 3) := by decide +kernel
theorem dX10_noPatch_56 : decode cX10_noPatch 56 = .ok (.iconst 0, 1) := by decide +kernel
theorem dX10_noPatch_57 : decode cX10_noPatch 57 = .ok (.ireturn, 1) := by decide +kernel
theorem dX10_failMany_0 : decode cX10_failMany 0 = .ok (.iconst 0, 1) := by decide +kernel
theorem dX10_failMany_1 : decode cX10_failMany 1 = .ok (.istore_n 1, 1) := by decide +kernel
theorem dX10_failMany_2 : decode cX10_failMany 2 = .ok (.iconst 0, 1) := by decide +kernel
theorem dX10_failMany_3 : decode cX10_failMany 3 = .ok (.istore_n 2, 1) := by decide +kernel
theorem dX10_failMany_4 : decode cX10_failMany 4 = .ok (.iload_n 2, 1) := by decide +kernel
theorem dX10_failMany_5 : decode cX10_failMany 5 = .ok (.aload_n 0, 1) := by decide +kernel
theorem dX10_failMany_6 : decode cX10_failMany 6 = .ok (.invokevirtual 191, 3) := by decide +kernel
theorem dX10_failMany_9 : decode cX10_failMany 9 = .ok (.if_icmp .ge 25, 3) := by decide +kernel
theorem dX10_failMany_12 : decode cX10_failMany 12 = .ok (.iload_n 1, 1) := by decide +kernel
theorem dX10_failMany_13 : decode cX10_failMany 13 = .ok (.aload_n 0, 1) := by decide +kernel
theorem dX10_failMany_14 : decode cX10_failMany 14 = .ok (.iload_n 2, 1) := by decide +kernel
theorem dX10_failMany_15 : decode cX10_failMany 15 = .ok (.invokevirtual 393, 3) := by decide +kernel
theorem dX10_failMany_18 : decode cX10_failMany 18 = .ok (.ifCond .eq 7, 3) := by decide +kernel
theorem dX10_failMany_21 : decode cX10_failMany 21 = .ok (.iconst 1, 1) := by decide +kernel
theorem dX10_failMany_22 : decode cX10_failMany 22 = .ok (.goto 4, 3) := by decide +kernel
theorem dX10_failMany_25 : decode cX10_failMany 25 = .ok (.iconst 0, 1) := by decide +kernel
theorem dX10_failMany_26 : decode cX10_failMany 26 = .ok (.iadd, 1) := by decide +kernel
theorem dX10_failMany_27 : decode cX10_failMany 27 = .ok (.istore_n 1, 1) := by decide +kernel
theorem dX10_failMany_28 : decode cX10_failMany 28 = .ok (.iinc 2 1, 3) := by decide +kernel
theorem dX10_failMany_31 : decode cX10_failMany 31 = .ok (.goto (-27), 3) := by decide +kernel
theorem dX10_failMany_34 : decode cX10_failMany 34 = .ok (.iload_n 1, 1) := by decide +kernel
theorem dX10_failMany_35 : decode cX10_failMany 35 = .ok (.ireturn, 1) := by decide +kernel
theorem dX10_rebuiltMany_0 : decode cX10_rebuiltMany 0 = .ok (.iconst 0, 1) := by decide +kernel
theorem dX10_rebuiltMany_1 : decode cX10_rebuiltMany 1 = .ok (.istore_n 1, 1) := by decide +kernel
theorem dX10_rebuiltMany_2 : decode cX10_rebuiltMany 2 = .ok (.iconst 0, 1) := by decide +kernel
theorem dX10_rebuiltMany_3 : decode cX10_rebuiltMany 3 = .ok (.istore_n 2, 1) := by decide +kernel
theorem dX10_rebuiltMany_4 : decode cX10_rebuiltMany 4 = .ok (.iload_n 2, 1) := by decide +kernel
theorem dX10_rebuiltMany_5 : decode cX10_rebuiltMany 5 = .ok (.aload_n 0, 1) := by decide +kernel
theorem dX10_rebuiltMany_6 : decode cX10_rebuiltMany 6 = .ok (.invokevirtual 191, 3) := by decide +kernel
theorem dX10_rebuiltMany_9 : decode cX10_rebuiltMany 9 = .ok (.if_icmp .ge 18, 3) := by decide +kernel
theorem dX10_rebuiltMany_12 : decode cX10_rebuiltMany 12 = .ok (.iload_n 1, 1) := by decide +kernel
theorem dX10_rebuiltMany_13 : decode cX10_rebuiltMany 13 = .ok (.aload_n 0, 1) := by decide +kernel
theorem dX10_rebuiltMany_14 : decode cX10_rebuiltMany 14 = .ok (.iload_n 2, 1) := by decide +kernel
theorem dX10_rebuiltMany_15 : decode cX10_rebuiltMany 15 = .ok (.iconst 2, 1) := by decide +kernel
theorem dX10_rebuiltMany_16 : decode cX10_rebuiltMany 16 = .ok (.invokevirtual 87, 3) := by decide +kernel
theorem dX10_rebuiltMany_19 : decode cX10_rebuiltMany 19 = .ok (.iadd, 1) := by decide +kernel
theorem dX10_rebuiltMany_20 : decode cX10_rebuiltMany 20 = .ok (.istore_n 1, 1) := by decide +kernel
theorem dX10_rebuiltMany_21 : decode cX10_rebuiltMany 21 = .ok (.iinc 2 1, 3) := by decide +kernel
theorem dX10_rebuiltMany_24 : decode cX10_rebuiltMany 24 = .ok (.goto (-20), 3) := by decide +kernel
theorem dX10_rebuiltMany_27 : decode cX10_rebuiltMany 27 = .ok (.iload_n 1, 1) := by decide +kernel
theorem dX10_rebuiltMany_28 : decode cX10_rebuiltMany 28 = .ok (.ireturn, 1) := by decide +kernel
theorem dX10_count_0 : decode cX10_count 0 = .ok (.aload_n 0, 1) := by decide +kernel
theorem dX10_count_1 : decode cX10_count 1 = .ok (.iconst 0, 1) := by decide +kernel
theorem dX10_count_2 : decode cX10_count 2 = .ok (.putfield 54, 3) := by decide +kernel
theorem dX10_count_5 : decode cX10_count 5 = .ok (.iload_n 1, 1) := by decide +kernel
theorem dX10_count_6 : decode cX10_count 6 = .ok (.tableswitch 162 0 13 #[70, 78, 86, 91, 99, 107, 115, 123, 123, 123, 136, 141, 152, 157], 70) := by decide +kernel
theorem dX10_count_76 : decode cX10_count 76 = .ok (.aload_n 0, 1) := by decide +kernel
theorem dX10_count_77 : decode cX10_count 77 = .ok (.getfield 7, 3) := by decide +kernel
theorem dX10_count_80 : decode cX10_count 80 = .ok (.bipush 6, 2) := by decide +kernel
theorem dX10_count_82 : decode cX10_count 82 = .ok (.iaload, 1) := by decide +kernel
theorem dX10_count_83 : decode cX10_count 83 = .ok (.ireturn, 1) := by decide +kernel
theorem dX10_count_84 : decode cX10_count 84 = .ok (.aload_n 0, 1) := by decide +kernel
theorem dX10_count_85 : decode cX10_count 85 = .ok (.getfield 7, 3) := by decide +kernel
theorem dX10_count_88 : decode cX10_count 88 = .ok (.bipush 7, 2) := by decide +kernel
theorem dX10_count_90 : decode cX10_count 90 = .ok (.iaload, 1) := by decide +kernel
theorem dX10_count_91 : decode cX10_count 91 = .ok (.ireturn, 1) := by decide +kernel
theorem dX10_count_92 : decode cX10_count 92 = .ok (.aload_n 0, 1) := by decide +kernel
theorem dX10_count_93 : decode cX10_count 93 = .ok (.invokevirtual 191, 3) := by decide +kernel
theorem dX10_count_96 : decode cX10_count 96 = .ok (.ireturn, 1) := by decide +kernel
theorem dX10_count_97 : decode cX10_count 97 = .ok (.aload_n 0, 1) := by decide +kernel
theorem dX10_count_98 : decode cX10_count 98 = .ok (.getfield 7, 3) := by decide +kernel
theorem dX10_count_101 : decode cX10_count 101 = .ok (.bipush 8, 2) := by decide +kernel
theorem dX10_count_103 : decode cX10_count 103 = .ok (.iaload, 1) := by decide +kernel
theorem dX10_count_104 : decode cX10_count 104 = .ok (.ireturn, 1) := by decide +kernel
theorem dX10_count_105 : decode cX10_count 105 = .ok (.aload_n 0, 1) := by decide +kernel
theorem dX10_count_106 : decode cX10_count 106 = .ok (.getfield 7, 3) := by decide +kernel
theorem dX10_count_109 : decode cX10_count 109 = .ok (.bipush 9, 2) := by decide +kernel
theorem dX10_count_111 : decode cX10_count 111 = .ok (.iaload, 1) := by decide +kernel
theorem dX10_count_112 : decode cX10_count 112 = .ok (.ireturn, 1) := by decide +kernel
theorem dX10_count_113 : decode cX10_count 113 = .ok (.aload_n 0, 1) := by decide +kernel
theorem dX10_count_114 : decode cX10_count 114 = .ok (.getfield 7, 3) := by decide +kernel
theorem dX10_count_117 : decode cX10_count 117 = .ok (.bipush 10, 2) := by decide +kernel
theorem dX10_count_119 : decode cX10_count 119 = .ok (.iaload, 1) := by decide +kernel
theorem dX10_count_120 : decode cX10_count 120 = .ok (.ireturn, 1) := by decide +kernel
theorem dX10_count_121 : decode cX10_count 121 = .ok (.aload_n 0, 1) := by decide +kernel
theorem dX10_count_122 : decode cX10_count 122 = .ok (.getfield 7, 3) := by decide +kernel
theorem dX10_count_125 : decode cX10_count 125 = .ok (.bipush 11, 2) := by decide +kernel
theorem dX10_count_127 : decode cX10_count 127 = .ok (.iaload, 1) := by decide +kernel
theorem dX10_count_128 : decode cX10_count 128 = .ok (.ireturn, 1) := by decide +kernel
theorem dX10_count_129 : decode cX10_count 129 = .ok (.aload_n 0, 1) := by decide +kernel
theorem dX10_count_130 : decode cX10_count 130 = .ok (.getfield 7, 3) := by decide +kernel
theorem dX10_count_133 : decode cX10_count 133 = .ok (.bipush 11, 2) := by decide +kernel
theorem dX10_count_135 : decode cX10_count 135 = .ok (.iload_n 1, 1) := by decide +kernel
theorem dX10_count_136 : decode cX10_count 136 = .ok (.iadd, 1) := by decide +kernel
theorem dX10_count_137 : decode cX10_count 137 = .ok (.bipush 6, 2) := by decide +kernel
theorem dX10_count_139 : decode cX10_count 139 = .ok (.isub, 1) := by decide +kernel
theorem dX10_count_140 : decode cX10_count 140 = .ok (.iaload, 1) := by decide +kernel
theorem dX10_count_141 : decode cX10_count 141 = .ok (.ireturn, 1) := by decide +kernel
theorem dX10_count_142 : decode cX10_count 142 = .ok (.aload_n 0, 1) := by decide +kernel
theorem dX10_count_143 : decode cX10_count 143 = .ok (.invokevirtual 396, 3) := by decide +kernel
theorem dX10_count_146 : decode cX10_count 146 = .ok (.ireturn, 1) := by decide +kernel
theorem dX10_count_147 : decode cX10_count 147 = .ok (.aload_n 0, 1) := by decide +kernel
theorem dX10_count_148 : decode cX10_count 148 = .ok (.getfield 7, 3) := by decide +kernel
theorem dX10_count_151 : decode cX10_count 151 = .ok (.bipush 15, 2) := by decide +kernel
theorem dX10_count_153 : decode cX10_count 153 = .ok (.iaload, 1) := by decide +kernel
theorem dX10_count_154 : decode cX10_count 154 = .ok (.invokestatic 399, 3) := by decide +kernel
theorem dX10_count_157 : decode cX10_count 157 = .ok (.ireturn, 1) := by decide +kernel
theorem dX10_count_158 : decode cX10_count 158 = .ok (.aload_n 0, 1) := by decide +kernel
theorem dX10_count_159 : decode cX10_count 159 = .ok (.invokevirtual 404, 3) := by decide +kernel
theorem dX10_count_162 : decode cX10_count 162 = .ok (.ireturn, 1) := by decide +kernel
theorem dX10_count_163 : decode cX10_count 163 = .ok (.aload_n 0, 1) := by decide +kernel
theorem dX10_count_164 : decode cX10_count 164 = .ok (.getfield 57, 3) := by decide +kernel
theorem dX10_count_167 : decode cX10_count 167 = .ok (.ireturn, 1) := by decide +kernel
theorem dX10_count_168 : decode cX10_count 168 = .ok (.aload_n 0, 1) := by decide +kernel
theorem dX10_count_169 : decode cX10_count 169 = .ok (.iconst 1, 1) := by decide +kernel
theorem dX10_count_170 : decode cX10_count 170 = .ok (.putfield 54, 3) := by decide +kernel
theorem dX10_count_173 : decode cX10_count 173 = .ok (.iconst 0, 1) := by decide +kernel
theorem dX10_count_174 : decode cX10_count 174 = .ok (.ireturn, 1) := by decide +kernel
theorem dX10_setting_0 : decode cX10_setting 0 = .ok (.aload_n 0, 1) := by decide +kernel
theorem dX10_setting_1 : decode cX10_setting 1 = .ok (.iconst 0, 1) := by decide +kernel
theorem dX10_setting_2 : decode cX10_setting 2 = .ok (.putfield 54, 3) := by decide +kernel
theorem dX10_setting_5 : decode cX10_setting 5 = .ok (.aload_n 0, 1) := by decide +kernel
theorem dX10_setting_6 : decode cX10_setting 6 = .ok (.iload_n 1, 1) := by decide +kernel
theorem dX10_setting_7 : decode cX10_setting 7 = .ok (.i2l, 1) := by decide +kernel
theorem dX10_setting_8 : decode cX10_setting 8 = .ok (.lconst 0, 1) := by decide +kernel
theorem dX10_setting_9 : decode cX10_setting 9 = .ok (.ldc2_w 407, 3) := by decide +kernel
theorem dX10_setting_12 : decode cX10_setting 12 = .ok (.invokestatic 129, 3) := by decide +kernel
theorem dX10_setting_15 : decode cX10_setting 15 = .ok (.ifCond .ne 7, 3) := by decide +kernel
theorem dX10_setting_18 : decode cX10_setting 18 = .ok (.iconst 1, 1) := by decide +kernel
theorem dX10_setting_19 : decode cX10_setting 19 = .ok (.goto 4, 3) := by decide +kernel
theorem dX10_setting_22 : decode cX10_setting 22 = .ok (.iconst 0, 1) := by decide +kernel
theorem dX10_setting_23 : decode cX10_setting 23 = .ok (.iconst 1, 1) := by decide +kernel
theorem dX10_setting_24 : decode cX10_setting 24 = .ok (.invokevirtual 380, 3) := by decide +kernel
theorem dX10_setting_27 : decode cX10_setting 27 = .ok (.ifCond .eq 7, 3) := by decide +kernel
theorem dX10_setting_30 : decode cX10_setting 30 = .ok (.iconst 0, 1) := by decide +kernel
theorem dX10_setting_31 : decode cX10_setting 31 = .ok (.goto 9, 3) := by decide +kernel
theorem dX10_setting_34 : decode cX10_setting 34 = .ok (.aload_n 0, 1) := by decide +kernel
theorem dX10_setting_35 : decode cX10_setting 35 = .ok (.getfield 7, 3) := by decide +kernel
theorem dX10_setting_38 : decode cX10_setting 38 = .ok (.iload_n 1, 1) := by decide +kernel
theorem dX10_setting_39 : decode cX10_setting 39 = .ok (.iaload, 1) := by decide +kernel
theorem dX10_setting_40 : decode cX10_setting 40 = .ok (.ireturn, 1) := by decide +kernel
theorem dX10_cell_0 : decode cX10_cell 0 = .ok (.aload_n 0, 1) := by decide +kernel
theorem dX10_cell_1 : decode cX10_cell 1 = .ok (.iload_n 1, 1) := by decide +kernel
theorem dX10_cell_2 : decode cX10_cell 2 = .ok (.invokevirtual 386, 3) := by decide +kernel
theorem dX10_cell_5 : decode cX10_cell 5 = .ok (.ifCond .ne 28, 3) := by decide +kernel
theorem dX10_cell_8 : decode cX10_cell 8 = .ok (.aload_n 0, 1) := by decide +kernel
theorem dX10_cell_9 : decode cX10_cell 9 = .ok (.iload_n 2, 1) := by decide +kernel
theorem dX10_cell_10 : decode cX10_cell 10 = .ok (.i2l, 1) := by decide +kernel
theorem dX10_cell_11 : decode cX10_cell 11 = .ok (.lconst 0, 1) := by decide +kernel
theorem dX10_cell_12 : decode cX10_cell 12 = .ok (.ldc2_w 409, 3) := by decide +kernel
theorem dX10_cell_15 : decode cX10_cell 15 = .ok (.invokestatic 129, 3) := by decide +kernel
theorem dX10_cell_18 : decode cX10_cell 18 = .ok (.ifCond .ne 7, 3) := by decide +kernel
theorem dX10_cell_21 : decode cX10_cell 21 = .ok (.iconst 1, 1) := by decide +kernel
theorem dX10_cell_22 : decode cX10_cell 22 = .ok (.goto 4, 3) := by decide +kernel
theorem dX10_cell_25 : decode cX10_cell 25 = .ok (.iconst 0, 1) := by decide +kernel
theorem dX10_cell_26 : decode cX10_cell 26 = .ok (.iconst 2, 1) := by decide +kernel
theorem dX10_cell_27 : decode cX10_cell 27 = .ok (.invokevirtual 380, 3) := by decide +kernel
theorem dX10_cell_30 : decode cX10_cell 30 = .ok (.ifCond .eq 5, 3) := by decide +kernel
theorem dX10_cell_33 : decode cX10_cell 33 = .ok (.iconst 0, 1) := by decide +kernel
theorem dX10_cell_34 : decode cX10_cell 34 = .ok (.ireturn, 1) := by decide +kernel
theorem dX10_cell_35 : decode cX10_cell 35 = .ok (.aload_n 0, 1) := by decide +kernel
theorem dX10_cell_36 : decode cX10_cell 36 = .ok (.iload_n 1, 1) := by decide +kernel
theorem dX10_cell_37 : decode cX10_cell 37 = .ok (.invokevirtual 93, 3) := by decide +kernel
theorem dX10_cell_40 : decode cX10_cell 40 = .ok (.istore_n 3, 1) := by decide +kernel
theorem dX10_cell_41 : decode cX10_cell 41 = .ok (.iload_n 2, 1) := by decide +kernel
theorem dX10_cell_42 : decode cX10_cell 42 = .ok (.tableswitch 101 0 8 #[50, 56, 101, 101, 101, 62, 68, 79, 81], 50) := by decide +kernel
theorem dX10_cell_92 : decode cX10_cell 92 = .ok (.aload_n 0, 1) := by decide +kernel
theorem dX10_cell_93 : decode cX10_cell 93 = .ok (.iload_n 1, 1) := by decide +kernel
theorem dX10_cell_94 : decode cX10_cell 94 = .ok (.invokevirtual 68, 3) := by decide +kernel
theorem dX10_cell_97 : decode cX10_cell 97 = .ok (.ireturn, 1) := by decide +kernel
theorem dX10_cell_98 : decode cX10_cell 98 = .ok (.aload_n 0, 1) := by decide +kernel
theorem dX10_cell_99 : decode cX10_cell 99 = .ok (.iload_n 1, 1) := by decide +kernel
theorem dX10_cell_100 : decode cX10_cell 100 = .ok (.invokevirtual 77, 3) := by decide +kernel
theorem dX10_cell_103 : decode cX10_cell 103 = .ok (.ireturn, 1) := by decide +kernel
theorem dX10_cell_104 : decode cX10_cell 104 = .ok (.aload_n 0, 1) := by decide +kernel
theorem dX10_cell_105 : decode cX10_cell 105 = .ok (.iload_n 1, 1) := by decide +kernel
theorem dX10_cell_106 : decode cX10_cell 106 = .ok (.invokevirtual 105, 3) := by decide +kernel
theorem dX10_cell_109 : decode cX10_cell 109 = .ok (.ireturn, 1) := by decide +kernel
theorem dX10_cell_110 : decode cX10_cell 110 = .ok (.aload_n 0, 1) := by decide +kernel
theorem dX10_cell_111 : decode cX10_cell 111 = .ok (.getfield 7, 3) := by decide +kernel
theorem dX10_cell_114 : decode cX10_cell 114 = .ok (.aload_n 0, 1) := by decide +kernel
theorem dX10_cell_115 : decode cX10_cell 115 = .ok (.iload_n 1, 1) := by decide +kernel
theorem dX10_cell_116 : decode cX10_cell 116 = .ok (.invokevirtual 96, 3) := by decide +kernel
theorem dX10_cell_119 : decode cX10_cell 119 = .ok (.iaload, 1) := by decide +kernel
theorem dX10_cell_120 : decode cX10_cell 120 = .ok (.ireturn, 1) := by decide +kernel
theorem dX10_cell_121 : decode cX10_cell 121 = .ok (.iload_n 3, 1) := by decide +kernel
theorem dX10_cell_122 : decode cX10_cell 122 = .ok (.ireturn, 1) := by decide +kernel
theorem dX10_cell_123 : decode cX10_cell 123 = .ok (.iload_n 3, 1) := by decide +kernel
theorem dX10_cell_124 : decode cX10_cell 124 = .ok (.iconst (-1), 1) := by decide +kernel
theorem dX10_cell_125 : decode cX10_cell 125 = .ok (.if_icmp .ne 7, 3) := by decide +kernel
theorem dX10_cell_128 : decode cX10_cell 128 = .ok (.iconst (-1), 1) := by decide +kernel
theorem dX10_cell_129 : decode cX10_cell 129 = .ok (.goto 13, 3) := by decide +kernel
theorem dX10_cell_132 : decode cX10_cell 132 = .ok (.aload_n 0, 1) := by decide +kernel
theorem dX10_cell_133 : decode cX10_cell 133 = .ok (.iload_n 1, 1) := by decide +kernel
theorem dX10_cell_134 : decode cX10_cell 134 = .ok (.aload_n 0, 1) := by decide +kernel
theorem dX10_cell_135 : decode cX10_cell 135 = .ok (.iload_n 3, 1) := by decide +kernel
theorem dX10_cell_136 : decode cX10_cell 136 = .ok (.invokevirtual 80, 3) := by decide +kernel
theorem dX10_cell_139 : decode cX10_cell 139 = .ok (.invokevirtual 83, 3) := by decide +kernel
theorem dX10_cell_142 : decode cX10_cell 142 = .ok (.ireturn, 1) := by decide +kernel
theorem dX10_cell_143 : decode cX10_cell 143 = .ok (.aload_n 0, 1) := by decide +kernel
theorem dX10_cell_144 : decode cX10_cell 144 = .ok (.iload_n 1, 1) := by decide +kernel
theorem dX10_cell_145 : decode cX10_cell 145 = .ok (.iload_n 2, 1) := by decide +kernel
theorem dX10_cell_146 : decode cX10_cell 146 = .ok (.iconst 2, 1) := by decide +kernel
theorem dX10_cell_147 : decode cX10_cell 147 = .ok (.isub, 1) := by decide +kernel
theorem dX10_cell_148 : decode cX10_cell 148 = .ok (.invokevirtual 87, 3) := by decide +kernel
theorem dX10_cell_151 : decode cX10_cell 151 = .ok (.ireturn, 1) := by decide +kernel
theorem dX10_worn_0 : decode cX10_worn 0 = .ok (.aload_n 0, 1) := by decide +kernel
theorem dX10_worn_1 : decode cX10_worn 1 = .ok (.iload_n 1, 1) := by decide +kernel
theorem dX10_worn_2 : decode cX10_worn 2 = .ok (.invokevirtual 386, 3) := by decide +kernel
theorem dX10_worn_5 : decode cX10_worn 5 = .ok (.ifCond .eq 7, 3) := by decide +kernel
theorem dX10_worn_8 : decode cX10_worn 8 = .ok (.lconst 0, 1) := by decide +kernel
theorem dX10_worn_9 : decode cX10_worn 9 = .ok (.goto 9, 3) := by decide +kernel
theorem dX10_worn_12 : decode cX10_worn 12 = .ok (.aload_n 0, 1) := by decide +kernel
theorem dX10_worn_13 : decode cX10_worn 13 = .ok (.getfield 22, 3) := by decide +kernel
theorem dX10_worn_16 : decode cX10_worn 16 = .ok (.iload_n 1, 1) := by decide +kernel
theorem dX10_worn_17 : decode cX10_worn 17 = .ok (.laload, 1) := by decide +kernel
theorem dX10_worn_18 : decode cX10_worn 18 = .ok (.lreturn, 1) := by decide +kernel
theorem dX10_capacity_0 : decode cX10_capacity 0 = .ok (.aload_n 0, 1) := by decide +kernel
theorem dX10_capacity_1 : decode cX10_capacity 1 = .ok (.iload_n 1, 1) := by decide +kernel
theorem dX10_capacity_2 : decode cX10_capacity 2 = .ok (.invokevirtual 386, 3) := by decide +kernel
theorem dX10_capacity_5 : decode cX10_capacity 5 = .ok (.ifCond .eq 7, 3) := by decide +kernel
theorem dX10_capacity_8 : decode cX10_capacity 8 = .ok (.lconst 0, 1) := by decide +kernel
theorem dX10_capacity_9 : decode cX10_capacity 9 = .ok (.goto 8, 3) := by decide +kernel
theorem dX10_capacity_12 : decode cX10_capacity 12 = .ok (.aload_n 0, 1) := by decide +kernel
theorem dX10_capacity_13 : decode cX10_capacity 13 = .ok (.iload_n 1, 1) := by decide +kernel
theorem dX10_capacity_14 : decode cX10_capacity 14 = .ok (.invokevirtual 174, 3) := by decide +kernel
theorem dX10_capacity_17 : decode cX10_capacity 17 = .ok (.lreturn, 1) := by decide +kernel
theorem dX10_layer_0 : decode cX10_layer 0 = .ok (.aload_n 0, 1) := by decide +kernel
theorem dX10_layer_1 : decode cX10_layer 1 = .ok (.iload_n 1, 1) := by decide +kernel
theorem dX10_layer_2 : decode cX10_layer 2 = .ok (.invokevirtual 386, 3) := by decide +kernel
theorem dX10_layer_5 : decode cX10_layer 5 = .ok (.ifCond .eq 5, 3) := by decide +kernel
theorem dX10_layer_8 : decode cX10_layer 8 = .ok (.iconst 0, 1) := by decide +kernel
theorem dX10_layer_9 : decode cX10_layer 9 = .ok (.ireturn, 1) := by decide +kernel
theorem dX10_layer_10 : decode cX10_layer 10 = .ok (.aload_n 0, 1) := by decide +kernel
theorem dX10_layer_11 : decode cX10_layer 11 = .ok (.iload_n 1, 1) := by decide +kernel
theorem dX10_layer_12 : decode cX10_layer 12 = .ok (.invokevirtual 96, 3) := by decide +kernel
theorem dX10_layer_15 : decode cX10_layer 15 = .ok (.istore 4, 2) := by decide +kernel
theorem dX10_layer_17 : decode cX10_layer 17 = .ok (.aload_n 0, 1) := by decide +kernel
theorem dX10_layer_18 : decode cX10_layer 18 = .ok (.iload_n 2, 1) := by decide +kernel
theorem dX10_layer_19 : decode cX10_layer 19 = .ok (.i2l, 1) := by decide +kernel
theorem dX10_layer_20 : decode cX10_layer 20 = .ok (.lconst 0, 1) := by decide +kernel
theorem dX10_layer_21 : decode cX10_layer 21 = .ok (.aload_n 0, 1) := by decide +kernel
theorem dX10_layer_22 : decode cX10_layer 22 = .ok (.getfield 7, 3) := by decide +kernel
theorem dX10_layer_25 : decode cX10_layer 25 = .ok (.iload 4, 2) := by decide +kernel
theorem dX10_layer_27 : decode cX10_layer 27 = .ok (.iaload, 1) := by decide +kernel
theorem dX10_layer_28 : decode cX10_layer 28 = .ok (.iconst 1, 1) := by decide +kernel
theorem dX10_layer_29 : decode cX10_layer 29 = .ok (.isub, 1) := by decide +kernel
theorem dX10_layer_30 : decode cX10_layer 30 = .ok (.i2l, 1) := by decide +kernel
theorem dX10_layer_31 : decode cX10_layer 31 = .ok (.invokestatic 129, 3) := by decide +kernel
theorem dX10_layer_34 : decode cX10_layer 34 = .ok (.ifCond .ne 7, 3) := by decide +kernel
theorem dX10_layer_37 : decode cX10_layer 37 = .ok (.iconst 1, 1) := by decide +kernel
theorem dX10_layer_38 : decode cX10_layer 38 = .ok (.goto 4, 3) := by decide +kernel
theorem dX10_layer_41 : decode cX10_layer 41 = .ok (.iconst 0, 1) := by decide +kernel
theorem dX10_layer_42 : decode cX10_layer 42 = .ok (.iconst 1, 1) := by decide +kernel
theorem dX10_layer_43 : decode cX10_layer 43 = .ok (.invokevirtual 380, 3) := by decide +kernel
theorem dX10_layer_46 : decode cX10_layer 46 = .ok (.ifCond .ne 26, 3) := by decide +kernel
theorem dX10_layer_49 : decode cX10_layer 49 = .ok (.aload_n 0, 1) := by decide +kernel
theorem dX10_layer_50 : decode cX10_layer 50 = .ok (.iload_n 3, 1) := by decide +kernel
theorem dX10_layer_51 : decode cX10_layer 51 = .ok (.i2l, 1) := by decide +kernel
theorem dX10_layer_52 : decode cX10_layer 52 = .ok (.lconst 0, 1) := by decide +kernel
theorem dX10_layer_53 : decode cX10_layer 53 = .ok (.lconst 1, 1) := by decide +kernel
theorem dX10_layer_54 : decode cX10_layer 54 = .ok (.invokestatic 129, 3) := by decide +kernel
theorem dX10_layer_57 : decode cX10_layer 57 = .ok (.ifCond .ne 7, 3) := by decide +kernel
theorem dX10_layer_60 : decode cX10_layer 60 = .ok (.iconst 1, 1) := by decide +kernel
theorem dX10_layer_61 : decode cX10_layer 61 = .ok (.goto 4, 3) := by decide +kernel
theorem dX10_layer_64 : decode cX10_layer 64 = .ok (.iconst 0, 1) := by decide +kernel
theorem dX10_layer_65 : decode cX10_layer 65 = .ok (.iconst 2, 1) := by decide +kernel
theorem dX10_layer_66 : decode cX10_layer 66 = .ok (.invokevirtual 380, 3) := by decide +kernel
theorem dX10_layer_69 : decode cX10_layer 69 = .ok (.ifCond .eq 5, 3) := by decide +kernel
theorem dX10_layer_72 : decode cX10_layer 72 = .ok (.iconst 0, 1) := by decide +kernel
theorem dX10_layer_73 : decode cX10_layer 73 = .ok (.ireturn, 1) := by decide +kernel
theorem dX10_layer_74 : decode cX10_layer 74 = .ok (.aload_n 0, 1) := by decide +kernel
theorem dX10_layer_75 : decode cX10_layer 75 = .ok (.getfield 7, 3) := by decide +kernel
theorem dX10_layer_78 : decode cX10_layer 78 = .ok (.iload 4, 2) := by decide +kernel
theorem dX10_layer_80 : decode cX10_layer 80 = .ok (.iconst 1, 1) := by decide +kernel
theorem dX10_layer_81 : decode cX10_layer 81 = .ok (.iadd, 1) := by decide +kernel
theorem dX10_layer_82 : decode cX10_layer 82 = .ok (.iconst 2, 1) := by decide +kernel
theorem dX10_layer_83 : decode cX10_layer 83 = .ok (.iload_n 2, 1) := by decide +kernel
theorem dX10_layer_84 : decode cX10_layer 84 = .ok (.imul, 1) := by decide +kernel
theorem dX10_layer_85 : decode cX10_layer 85 = .ok (.iadd, 1) := by decide +kernel
theorem dX10_layer_86 : decode cX10_layer 86 = .ok (.iload_n 3, 1) := by decide +kernel
theorem dX10_layer_87 : decode cX10_layer 87 = .ok (.iadd, 1) := by decide +kernel
theorem dX10_layer_88 : decode cX10_layer 88 = .ok (.iaload, 1) := by decide +kernel
theorem dX10_layer_89 : decode cX10_layer 89 = .ok (.ireturn, 1) := by decide +kernel
theorem dX10_cellsOfCore_0 : decode cX10_cellsOfCore 0 = .ok (.iconst 0, 1) := by decide +kernel
theorem dX10_cellsOfCore_1 : decode cX10_cellsOfCore 1 = .ok (.istore_n 2, 1) := by decide +kernel
theorem dX10_cellsOfCore_2 : decode cX10_cellsOfCore 2 = .ok (.iconst 0, 1) := by decide +kernel
theorem dX10_cellsOfCore_3 : decode cX10_cellsOfCore 3 = .ok (.istore_n 3, 1) := by decide +kernel
theorem dX10_cellsOfCore_4 : decode cX10_cellsOfCore 4 = .ok (.iload_n 3, 1) := by decide +kernel
theorem dX10_cellsOfCore_5 : decode cX10_cellsOfCore 5 = .ok (.aload_n 0, 1) := by decide +kernel
theorem dX10_cellsOfCore_6 : decode cX10_cellsOfCore 6 = .ok (.invokevirtual 191, 3) := by decide +kernel
theorem dX10_cellsOfCore_9 : decode cX10_cellsOfCore 9 = .ok (.if_icmp .ge 26, 3) := by decide +kernel
theorem dX10_cellsOfCore_12 : decode cX10_cellsOfCore 12 = .ok (.iload_n 2, 1) := by decide +kernel
theorem dX10_cellsOfCore_13 : decode cX10_cellsOfCore 13 = .ok (.aload_n 0, 1) := by decide +kernel
theorem dX10_cellsOfCore_14 : decode cX10_cellsOfCore 14 = .ok (.iload_n 3, 1) := by decide +kernel
theorem dX10_cellsOfCore_15 : decode cX10_cellsOfCore 15 = .ok (.invokevirtual 93, 3) := by decide +kernel
theorem dX10_cellsOfCore_18 : decode cX10_cellsOfCore 18 = .ok (.iload_n 1, 1) := by decide +kernel
theorem dX10_cellsOfCore_19 : decode cX10_cellsOfCore 19 = .ok (.if_icmp .ne 7, 3) := by decide +kernel
theorem dX10_cellsOfCore_22 : decode cX10_cellsOfCore 22 = .ok (.iconst 1, 1) := by decide +kernel
theorem dX10_cellsOfCore_23 : decode cX10_cellsOfCore 23 = .ok (.goto 4, 3) := by decide +kernel
theorem dX10_cellsOfCore_26 : decode cX10_cellsOfCore 26 = .ok (.iconst 0, 1) := by decide +kernel
theorem dX10_cellsOfCore_27 : decode cX10_cellsOfCore 27 = .ok (.iadd, 1) := by decide +kernel
theorem dX10_cellsOfCore_28 : decode cX10_cellsOfCore 28 = .ok (.istore_n 2, 1) := by decide +kernel
theorem dX10_cellsOfCore_29 : decode cX10_cellsOfCore 29 = .ok (.iinc 3 1, 3) := by decide +kernel
theorem dX10_cellsOfCore_32 : decode cX10_cellsOfCore 32 = .ok (.goto (-28), 3) := by decide +kernel
theorem dX10_cellsOfCore_35 : decode cX10_cellsOfCore 35 = .ok (.iload_n 2, 1) := by decide +kernel
theorem dX10_cellsOfCore_36 : decode cX10_cellsOfCore 36 = .ok (.ireturn, 1) := by decide +kernel
theorem dX10_core_0 : decode cX10_core 0 = .ok (.aload_n 0, 1) := by decide +kernel
theorem dX10_core_1 : decode cX10_core 1 = .ok (.iload_n 1, 1) := by decide +kernel
theorem dX10_core_2 : decode cX10_core 2 = .ok (.invokevirtual 411, 3) := by decide +kernel
theorem dX10_core_5 : decode cX10_core 5 = .ok (.ifCond .ne 28, 3) := by decide +kernel
theorem dX10_core_8 : decode cX10_core 8 = .ok (.aload_n 0, 1) := by decide +kernel
theorem dX10_core_9 : decode cX10_core 9 = .ok (.iload_n 2, 1) := by decide +kernel
theorem dX10_core_10 : decode cX10_core 10 = .ok (.i2l, 1) := by decide +kernel
theorem dX10_core_11 : decode cX10_core 11 = .ok (.lconst 0, 1) := by decide +kernel
theorem dX10_core_12 : decode cX10_core 12 = .ok (.ldc2_w 414, 3) := by decide +kernel
theorem dX10_core_15 : decode cX10_core 15 = .ok (.invokestatic 129, 3) := by decide +kernel
theorem dX10_core_18 : decode cX10_core 18 = .ok (.ifCond .ne 7, 3) := by decide +kernel
theorem dX10_core_21 : decode cX10_core 21 = .ok (.iconst 1, 1) := by decide +kernel
theorem dX10_core_22 : decode cX10_core 22 = .ok (.goto 4, 3) := by decide +kernel
theorem dX10_core_25 : decode cX10_core 25 = .ok (.iconst 0, 1) := by decide +kernel
theorem dX10_core_26 : decode cX10_core 26 = .ok (.iconst 2, 1) := by decide +kernel
theorem dX10_core_27 : decode cX10_core 27 = .ok (.invokevirtual 380, 3) := by decide +kernel
theorem dX10_core_30 : decode cX10_core 30 = .ok (.ifCond .eq 5, 3) := by decide +kernel
theorem dX10_core_33 : decode cX10_core 33 = .ok (.iconst 0, 1) := by decide +kernel
theorem dX10_core_34 : decode cX10_core 34 = .ok (.ireturn, 1) := by decide +kernel
theorem dX10_core_35 : decode cX10_core 35 = .ok (.iload_n 2, 1) := by decide +kernel
theorem dX10_core_36 : decode cX10_core 36 = .ok (.iconst 2, 1) := by decide +kernel
theorem dX10_core_37 : decode cX10_core 37 = .ok (.if_icmp .ne 11, 3) := by decide +kernel
theorem dX10_core_40 : decode cX10_core 40 = .ok (.aload_n 0, 1) := by decide +kernel
theorem dX10_core_41 : decode cX10_core 41 = .ok (.iload_n 1, 1) := by decide +kernel
theorem dX10_core_42 : decode cX10_core 42 = .ok (.invokevirtual 416, 3) := by decide +kernel
theorem dX10_core_45 : decode cX10_core 45 = .ok (.goto 17, 3) := by decide +kernel
theorem dX10_core_48 : decode cX10_core 48 = .ok (.aload_n 0, 1) := by decide +kernel
theorem dX10_core_49 : decode cX10_core 49 = .ok (.getfield 7, 3) := by decide +kernel
theorem dX10_core_52 : decode cX10_core 52 = .ok (.bipush 25, 2) := by decide +kernel
theorem dX10_core_54 : decode cX10_core 54 = .ok (.bipush 10, 2) := by decide +kernel
theorem dX10_core_56 : decode cX10_core 56 = .ok (.iload_n 1, 1) := by decide +kernel
theorem dX10_core_57 : decode cX10_core 57 = .ok (.imul, 1) := by decide +kernel
theorem dX10_core_58 : decode cX10_core 58 = .ok (.iadd, 1) := by decide +kernel
theorem dX10_core_59 : decode cX10_core 59 = .ok (.iload_n 2, 1) := by decide +kernel
theorem dX10_core_60 : decode cX10_core 60 = .ok (.iadd, 1) := by decide +kernel
theorem dX10_core_61 : decode cX10_core 61 = .ok (.iaload, 1) := by decide +kernel
theorem dX10_core_62 : decode cX10_core 62 = .ok (.ireturn, 1) := by decide +kernel
theorem dX10_load_0 : decode cX10_load 0 = .ok (.aload_n 0, 1) := by decide +kernel
theorem dX10_load_1 : decode cX10_load 1 = .ok (.iload_n 1, 1) := by decide +kernel
theorem dX10_load_2 : decode cX10_load 2 = .ok (.invokevirtual 419, 3) := by decide +kernel
theorem dX10_load_5 : decode cX10_load 5 = .ok (.ifCond .ne 28, 3) := by decide +kernel
theorem dX10_load_8 : decode cX10_load 8 = .ok (.aload_n 0, 1) := by decide +kernel
theorem dX10_load_9 : decode cX10_load 9 = .ok (.iload_n 2, 1) := by decide +kernel
theorem dX10_load_10 : decode cX10_load 10 = .ok (.i2l, 1) := by decide +kernel
theorem dX10_load_11 : decode cX10_load 11 = .ok (.lconst 0, 1) := by decide +kernel
theorem dX10_load_12 : decode cX10_load 12 = .ok (.ldc2_w 422, 3) := by decide +kernel
theorem dX10_load_15 : decode cX10_load 15 = .ok (.invokestatic 129, 3) := by decide +kernel
theorem dX10_load_18 : decode cX10_load 18 = .ok (.ifCond .ne 7, 3) := by decide +kernel
theorem dX10_load_21 : decode cX10_load 21 = .ok (.iconst 1, 1) := by decide +kernel
theorem dX10_load_22 : decode cX10_load 22 = .ok (.goto 4, 3) := by decide +kernel
theorem dX10_load_25 : decode cX10_load 25 = .ok (.iconst 0, 1) := by decide +kernel
theorem dX10_load_26 : decode cX10_load 26 = .ok (.iconst 2, 1) := by decide +kernel
theorem dX10_load_27 : decode cX10_load 27 = .ok (.invokevirtual 380, 3) := by decide +kernel
theorem dX10_load_30 : decode cX10_load 30 = .ok (.ifCond .eq 5, 3) := by decide +kernel
theorem dX10_load_33 : decode cX10_load 33 = .ok (.iconst 0, 1) := by decide +kernel
theorem dX10_load_34 : decode cX10_load 34 = .ok (.ireturn, 1) := by decide +kernel
theorem dX10_load_35 : decode cX10_load 35 = .ok (.iload_n 2, 1) := by decide +kernel
theorem dX10_load_36 : decode cX10_load 36 = .ok (.bipush 6, 2) := by decide +kernel
theorem dX10_load_38 : decode cX10_load 38 = .ok (.if_icmp .ne 11, 3) := by decide +kernel
theorem dX10_load_41 : decode cX10_load 41 = .ok (.aload_n 0, 1) := by decide +kernel
theorem dX10_load_42 : decode cX10_load 42 = .ok (.iload_n 1, 1) := by decide +kernel
theorem dX10_load_43 : decode cX10_load 43 = .ok (.invokevirtual 126, 3) := by decide +kernel
theorem dX10_load_46 : decode cX10_load 46 = .ok (.goto 9, 3) := by decide +kernel
theorem dX10_load_49 : decode cX10_load 49 = .ok (.aload_n 0, 1) := by decide +kernel
theorem dX10_load_50 : decode cX10_load 50 = .ok (.iload_n 1, 1) := by decide +kernel
theorem dX10_load_51 : decode cX10_load 51 = .ok (.iload_n 2, 1) := by decide +kernel
theorem dX10_load_52 : decode cX10_load 52 = .ok (.invokevirtual 108, 3) := by decide +kernel
theorem dX10_load_55 : decode cX10_load 55 = .ok (.ireturn, 1) := by decide +kernel
theorem dX10_base_0 : decode cX10_base 0 = .ok (.aload_n 0, 1) := by decide +kernel
theorem dX10_base_1 : decode cX10_base 1 = .ok (.iload_n 1, 1) := by decide +kernel
theorem dX10_base_2 : decode cX10_base 2 = .ok (.invokevirtual 386, 3) := by decide +kernel
theorem dX10_base_5 : decode cX10_base 5 = .ok (.ifCond .eq 5, 3) := by decide +kernel
theorem dX10_base_8 : decode cX10_base 8 = .ok (.lconst 0, 1) := by decide +kernel
theorem dX10_base_9 : decode cX10_base 9 = .ok (.lreturn, 1) := by decide +kernel
theorem dX10_base_10 : decode cX10_base 10 = .ok (.aload_n 0, 1) := by decide +kernel
theorem dX10_base_11 : decode cX10_base 11 = .ok (.invokevirtual 147, 3) := by decide +kernel
theorem dX10_base_14 : decode cX10_base 14 = .ok (.aload_n 0, 1) := by decide +kernel
theorem dX10_base_15 : decode cX10_base 15 = .ok (.iload_n 1, 1) := by decide +kernel
theorem dX10_base_16 : decode cX10_base 16 = .ok (.invokevirtual 139, 3) := by decide +kernel
theorem dX10_base_19 : decode cX10_base 19 = .ok (.lreturn, 1) := by decide +kernel
theorem dX10_units_0 : decode cX10_units 0 = .ok (.aload_n 0, 1) := by decide +kernel
theorem dX10_units_1 : decode cX10_units 1 = .ok (.iload_n 1, 1) := by decide +kernel
theorem dX10_units_2 : decode cX10_units 2 = .ok (.invokevirtual 386, 3) := by decide +kernel
theorem dX10_units_5 : decode cX10_units 5 = .ok (.ifCond .eq 5, 3) := by decide +kernel
theorem dX10_units_8 : decode cX10_units 8 = .ok (.lconst 0, 1) := by decide +kernel
theorem dX10_units_9 : decode cX10_units 9 = .ok (.lreturn, 1) := by decide +kernel
theorem dX10_units_10 : decode cX10_units 10 = .ok (.aload_n 0, 1) := by decide +kernel
theorem dX10_units_11 : decode cX10_units 11 = .ok (.invokevirtual 147, 3) := by decide +kernel
theorem dX10_units_14 : decode cX10_units 14 = .ok (.aload_n 0, 1) := by decide +kernel
theorem dX10_units_15 : decode cX10_units 15 = .ok (.iload_n 1, 1) := by decide +kernel
theorem dX10_units_16 : decode cX10_units 16 = .ok (.aload_n 0, 1) := by decide +kernel
theorem dX10_units_17 : decode cX10_units 17 = .ok (.iload_n 1, 1) := by decide +kernel
theorem dX10_units_18 : decode cX10_units 18 = .ok (.iconst 0, 1) := by decide +kernel
theorem dX10_units_19 : decode cX10_units 19 = .ok (.invokevirtual 87, 3) := by decide +kernel
theorem dX10_units_22 : decode cX10_units 22 = .ok (.invokevirtual 157, 3) := by decide +kernel
theorem dX10_units_25 : decode cX10_units 25 = .ok (.lreturn, 1) := by decide +kernel
theorem dX10_failsBy_0 : decode cX10_failsBy 0 = .ok (.aload_n 0, 1) := by decide +kernel
theorem dX10_failsBy_1 : decode cX10_failsBy 1 = .ok (.iload_n 1, 1) := by decide +kernel
theorem dX10_failsBy_2 : decode cX10_failsBy 2 = .ok (.invokevirtual 386, 3) := by decide +kernel
theorem dX10_failsBy_5 : decode cX10_failsBy 5 = .ok (.ifCond .eq 7, 3) := by decide +kernel
theorem dX10_failsBy_8 : decode cX10_failsBy 8 = .ok (.iconst 0, 1) := by decide +kernel
theorem dX10_failsBy_9 : decode cX10_failsBy 9 = .ok (.goto 8, 3) := by decide +kernel
theorem dX10_failsBy_12 : decode cX10_failsBy 12 = .ok (.aload_n 0, 1) := by decide +kernel
theorem dX10_failsBy_13 : decode cX10_failsBy 13 = .ok (.iload_n 1, 1) := by decide +kernel
theorem dX10_failsBy_14 : decode cX10_failsBy 14 = .ok (.invokevirtual 393, 3) := by decide +kernel
theorem dX10_failsBy_17 : decode cX10_failsBy 17 = .ok (.ireturn, 1) := by decide +kernel
theorem dX10_yearsLeft_0 : decode cX10_yearsLeft 0 = .ok (.aload_n 0, 1) := by decide +kernel
theorem dX10_yearsLeft_1 : decode cX10_yearsLeft 1 = .ok (.iload_n 1, 1) := by decide +kernel
theorem dX10_yearsLeft_2 : decode cX10_yearsLeft 2 = .ok (.invokevirtual 386, 3) := by decide +kernel
theorem dX10_yearsLeft_5 : decode cX10_yearsLeft 5 = .ok (.ifCond .eq 7, 3) := by decide +kernel
theorem dX10_yearsLeft_8 : decode cX10_yearsLeft 8 = .ok (.iconst 0, 1) := by decide +kernel
theorem dX10_yearsLeft_9 : decode cX10_yearsLeft 9 = .ok (.goto 8, 3) := by decide +kernel
theorem dX10_yearsLeft_12 : decode cX10_yearsLeft 12 = .ok (.aload_n 0, 1) := by decide +kernel
theorem dX10_yearsLeft_13 : decode cX10_yearsLeft 13 = .ok (.iload_n 1, 1) := by decide +kernel
theorem dX10_yearsLeft_14 : decode cX10_yearsLeft 14 = .ok (.invokevirtual 183, 3) := by decide +kernel
theorem dX10_yearsLeft_17 : decode cX10_yearsLeft 17 = .ok (.ireturn, 1) := by decide +kernel
theorem dX10_isAhead_0 : decode cX10_isAhead 0 = .ok (.aload_n 0, 1) := by decide +kernel
theorem dX10_isAhead_1 : decode cX10_isAhead 1 = .ok (.getfield 42, 3) := by decide +kernel
theorem dX10_isAhead_4 : decode cX10_isAhead 4 = .ok (.iload_n 1, 1) := by decide +kernel
theorem dX10_isAhead_5 : decode cX10_isAhead 5 = .ok (.iaload, 1) := by decide +kernel
theorem dX10_isAhead_6 : decode cX10_isAhead 6 = .ok (.aload_n 0, 1) := by decide +kernel
theorem dX10_isAhead_7 : decode cX10_isAhead 7 = .ok (.getfield 42, 3) := by decide +kernel
theorem dX10_isAhead_10 : decode cX10_isAhead 10 = .ok (.iload_n 2, 1) := by decide +kernel
theorem dX10_isAhead_11 : decode cX10_isAhead 11 = .ok (.iaload, 1) := by decide +kernel
theorem dX10_isAhead_12 : decode cX10_isAhead 12 = .ok (.if_icmp .eq 24, 3) := by decide +kernel
theorem dX10_isAhead_15 : decode cX10_isAhead 15 = .ok (.aload_n 0, 1) := by decide +kernel
theorem dX10_isAhead_16 : decode cX10_isAhead 16 = .ok (.getfield 42, 3) := by decide +kernel
theorem dX10_isAhead_19 : decode cX10_isAhead 19 = .ok (.iload_n 1, 1) := by decide +kernel
theorem dX10_isAhead_20 : decode cX10_isAhead 20 = .ok (.iaload, 1) := by decide +kernel
theorem dX10_isAhead_21 : decode cX10_isAhead 21 = .ok (.aload_n 0, 1) := by decide +kernel
theorem dX10_isAhead_22 : decode cX10_isAhead 22 = .ok (.getfield 42, 3) := by decide +kernel
theorem dX10_isAhead_25 : decode cX10_isAhead 25 = .ok (.iload_n 2, 1) := by decide +kernel
theorem dX10_isAhead_26 : decode cX10_isAhead 26 = .ok (.iaload, 1) := by decide +kernel
theorem dX10_isAhead_27 : decode cX10_isAhead 27 = .ok (.if_icmp .ge 7, 3) := by decide +kernel
theorem dX10_isAhead_30 : decode cX10_isAhead 30 = .ok (.iconst 1, 1) := by decide +kernel
theorem dX10_isAhead_31 : decode cX10_isAhead 31 = .ok (.goto 4, 3) := by decide +kernel
theorem dX10_isAhead_34 : decode cX10_isAhead 34 = .ok (.iconst 0, 1) := by decide +kernel
theorem dX10_isAhead_35 : decode cX10_isAhead 35 = .ok (.ireturn, 1) := by decide +kernel
theorem dX10_isAhead_36 : decode cX10_isAhead 36 = .ok (.aload_n 0, 1) := by decide +kernel
theorem dX10_isAhead_37 : decode cX10_isAhead 37 = .ok (.iload_n 1, 1) := by decide +kernel
theorem dX10_isAhead_38 : decode cX10_isAhead 38 = .ok (.invokevirtual 105, 3) := by decide +kernel
theorem dX10_isAhead_41 : decode cX10_isAhead 41 = .ok (.aload_n 0, 1) := by decide +kernel
theorem dX10_isAhead_42 : decode cX10_isAhead 42 = .ok (.iload_n 2, 1) := by decide +kernel
theorem dX10_isAhead_43 : decode cX10_isAhead 43 = .ok (.invokevirtual 105, 3) := by decide +kernel
theorem dX10_isAhead_46 : decode cX10_isAhead 46 = .ok (.if_icmp .eq 24, 3) := by decide +kernel
theorem dX10_isAhead_49 : decode cX10_isAhead 49 = .ok (.aload_n 0, 1) := by decide +kernel
theorem dX10_isAhead_50 : decode cX10_isAhead 50 = .ok (.iload_n 1, 1) := by decide +kernel
theorem dX10_isAhead_51 : decode cX10_isAhead 51 = .ok (.invokevirtual 105, 3) := by decide +kernel
theorem dX10_isAhead_54 : decode cX10_isAhead 54 = .ok (.aload_n 0, 1) := by decide +kernel
theorem dX10_isAhead_55 : decode cX10_isAhead 55 = .ok (.iload_n 2, 1) := by decide +kernel
theorem dX10_isAhead_56 : decode cX10_isAhead 56 = .ok (.invokevirtual 105, 3) := by decide +kernel
theorem dX10_isAhead_59 : decode cX10_isAhead 59 = .ok (.if_icmp .ge 7, 3) := by decide +kernel
theorem dX10_isAhead_62 : decode cX10_isAhead 62 = .ok (.iconst 1, 1) := by decide +kernel
theorem dX10_isAhead_63 : decode cX10_isAhead 63 = .ok (.goto 17, 3) := by decide +kernel
theorem dX10_isAhead_66 : decode cX10_isAhead 66 = .ok (.iconst 0, 1) := by decide +kernel
theorem dX10_isAhead_67 : decode cX10_isAhead 67 = .ok (.goto 13, 3) := by decide +kernel
theorem dX10_isAhead_70 : decode cX10_isAhead 70 = .ok (.iload_n 1, 1) := by decide +kernel
theorem dX10_isAhead_71 : decode cX10_isAhead 71 = .ok (.iload_n 2, 1) := by decide +kernel
theorem dX10_isAhead_72 : decode cX10_isAhead 72 = .ok (.if_icmp .ge 7, 3) := by decide +kernel
theorem dX10_isAhead_75 : decode cX10_isAhead 75 = .ok (.iconst 1, 1) := by decide +kernel
theorem dX10_isAhead_76 : decode cX10_isAhead 76 = .ok (.goto 4, 3) := by decide +kernel
theorem dX10_isAhead_79 : decode cX10_isAhead 79 = .ok (.iconst 0, 1) := by decide +kernel
theorem dX10_isAhead_80 : decode cX10_isAhead 80 = .ok (.ireturn, 1) := by decide +kernel
theorem dX10_nthCell_0 : decode cX10_nthCell 0 = .ok (.aload_n 0, 1) := by decide +kernel
theorem dX10_nthCell_1 : decode cX10_nthCell 1 = .ok (.iload_n 1, 1) := by decide +kernel
theorem dX10_nthCell_2 : decode cX10_nthCell 2 = .ok (.invokevirtual 386, 3) := by decide +kernel
theorem dX10_nthCell_5 : decode cX10_nthCell 5 = .ok (.ifCond .eq 5, 3) := by decide +kernel
theorem dX10_nthCell_8 : decode cX10_nthCell 8 = .ok (.iconst 0, 1) := by decide +kernel
theorem dX10_nthCell_9 : decode cX10_nthCell 9 = .ok (.ireturn, 1) := by decide +kernel
theorem dX10_nthCell_10 : decode cX10_nthCell 10 = .ok (.iconst 0, 1) := by decide +kernel
theorem dX10_nthCell_11 : decode cX10_nthCell 11 = .ok (.istore_n 2, 1) := by decide +kernel
theorem dX10_nthCell_12 : decode cX10_nthCell 12 = .ok (.iload_n 2, 1) := by decide +kernel
theorem dX10_nthCell_13 : decode cX10_nthCell 13 = .ok (.aload_n 0, 1) := by decide +kernel
theorem dX10_nthCell_14 : decode cX10_nthCell 14 = .ok (.invokevirtual 191, 3) := by decide +kernel
theorem dX10_nthCell_17 : decode cX10_nthCell 17 = .ok (.if_icmp .ge 20, 3) := by decide +kernel
theorem dX10_nthCell_20 : decode cX10_nthCell 20 = .ok (.aload_n 0, 1) := by decide +kernel
theorem dX10_nthCell_21 : decode cX10_nthCell 21 = .ok (.getfield 42, 3) := by decide +kernel
theorem dX10_nthCell_24 : decode cX10_nthCell 24 = .ok (.iload_n 2, 1) := by decide +kernel
theorem dX10_nthCell_25 : decode cX10_nthCell 25 = .ok (.aload_n 0, 1) := by decide +kernel
theorem dX10_nthCell_26 : decode cX10_nthCell 26 = .ok (.iload_n 2, 1) := by decide +kernel
theorem dX10_nthCell_27 : decode cX10_nthCell 27 = .ok (.invokevirtual 186, 3) := by decide +kernel
theorem dX10_nthCell_30 : decode cX10_nthCell 30 = .ok (.iastore, 1) := by decide +kernel
theorem dX10_nthCell_31 : decode cX10_nthCell 31 = .ok (.iinc 2 1, 3) := by decide +kernel
theorem dX10_nthCell_34 : decode cX10_nthCell 34 = .ok (.goto (-22), 3) := by decide +kernel
theorem dX10_nthCell_37 : decode cX10_nthCell 37 = .ok (.iconst 0, 1) := by decide +kernel
theorem dX10_nthCell_38 : decode cX10_nthCell 38 = .ok (.istore_n 2, 1) := by decide +kernel
theorem dX10_nthCell_39 : decode cX10_nthCell 39 = .ok (.iload_n 2, 1) := by decide +kernel
theorem dX10_nthCell_40 : decode cX10_nthCell 40 = .ok (.aload_n 0, 1) := by decide +kernel
theorem dX10_nthCell_41 : decode cX10_nthCell 41 = .ok (.invokevirtual 191, 3) := by decide +kernel
theorem dX10_nthCell_44 : decode cX10_nthCell 44 = .ok (.if_icmp .ge 54, 3) := by decide +kernel
theorem dX10_nthCell_47 : decode cX10_nthCell 47 = .ok (.iconst 0, 1) := by decide +kernel
theorem dX10_nthCell_48 : decode cX10_nthCell 48 = .ok (.istore_n 3, 1) := by decide +kernel
theorem dX10_nthCell_49 : decode cX10_nthCell 49 = .ok (.iconst 0, 1) := by decide +kernel
theorem dX10_nthCell_50 : decode cX10_nthCell 50 = .ok (.istore 4, 2) := by decide +kernel
theorem dX10_nthCell_52 : decode cX10_nthCell 52 = .ok (.iload 4, 2) := by decide +kernel
theorem dX10_nthCell_54 : decode cX10_nthCell 54 = .ok (.aload_n 0, 1) := by decide +kernel
theorem dX10_nthCell_55 : decode cX10_nthCell 55 = .ok (.invokevirtual 191, 3) := by decide +kernel
theorem dX10_nthCell_58 : decode cX10_nthCell 58 = .ok (.if_icmp .ge 27, 3) := by decide +kernel
theorem dX10_nthCell_61 : decode cX10_nthCell 61 = .ok (.iload_n 3, 1) := by decide +kernel
theorem dX10_nthCell_62 : decode cX10_nthCell 62 = .ok (.aload_n 0, 1) := by decide +kernel
theorem dX10_nthCell_63 : decode cX10_nthCell 63 = .ok (.iload 4, 2) := by decide +kernel
theorem dX10_nthCell_65 : decode cX10_nthCell 65 = .ok (.iload_n 2, 1) := by decide +kernel
theorem dX10_nthCell_66 : decode cX10_nthCell 66 = .ok (.invokevirtual 424, 3) := by decide +kernel
theorem dX10_nthCell_69 : decode cX10_nthCell 69 = .ok (.ifCond .eq 7, 3) := by decide +kernel
theorem dX10_nthCell_72 : decode cX10_nthCell 72 = .ok (.iconst 1, 1) := by decide +kernel
theorem dX10_nthCell_73 : decode cX10_nthCell 73 = .ok (.goto 4, 3) := by decide +kernel
theorem dX10_nthCell_76 : decode cX10_nthCell 76 = .ok (.iconst 0, 1) := by decide +kernel
theorem dX10_nthCell_77 : decode cX10_nthCell 77 = .ok (.iadd, 1) := by decide +kernel
theorem dX10_nthCell_78 : decode cX10_nthCell 78 = .ok (.istore_n 3, 1) := by decide +kernel
theorem dX10_nthCell_79 : decode cX10_nthCell 79 = .ok (.iinc 4 1, 3) := by decide +kernel
theorem dX10_nthCell_82 : decode cX10_nthCell 82 = .ok (.goto (-30), 3) := by decide +kernel
theorem dX10_nthCell_85 : decode cX10_nthCell 85 = .ok (.iload_n 3, 1) := by decide +kernel
theorem dX10_nthCell_86 : decode cX10_nthCell 86 = .ok (.iload_n 1, 1) := by decide +kernel
theorem dX10_nthCell_87 : decode cX10_nthCell 87 = .ok (.if_icmp .ne 5, 3) := by decide +kernel
theorem dX10_nthCell_90 : decode cX10_nthCell 90 = .ok (.iload_n 2, 1) := by decide +kernel
theorem dX10_nthCell_91 : decode cX10_nthCell 91 = .ok (.ireturn, 1) := by decide +kernel
theorem dX10_nthCell_92 : decode cX10_nthCell 92 = .ok (.iinc 2 1, 3) := by decide +kernel
theorem dX10_nthCell_95 : decode cX10_nthCell 95 = .ok (.goto (-56), 3) := by decide +kernel
theorem dX10_nthCell_98 : decode cX10_nthCell 98 = .ok (.iconst (-1), 1) := by decide +kernel
theorem dX10_nthCell_99 : decode cX10_nthCell 99 = .ok (.ireturn, 1) := by decide +kernel
theorem dX10_laneYears_0 : decode cX10_laneYears 0 = .ok (.aload_n 0, 1) := by decide +kernel
theorem dX10_laneYears_1 : decode cX10_laneYears 1 = .ok (.iload_n 1, 1) := by decide +kernel
theorem dX10_laneYears_2 : decode cX10_laneYears 2 = .ok (.invokevirtual 427, 3) := by decide +kernel
theorem dX10_laneYears_5 : decode cX10_laneYears 5 = .ok (.ifCond .eq 7, 3) := by decide +kernel
theorem dX10_laneYears_8 : decode cX10_laneYears 8 = .ok (.iconst 0, 1) := by decide +kernel
theorem dX10_laneYears_9 : decode cX10_laneYears 9 = .ok (.goto 8, 3) := by decide +kernel
theorem dX10_laneYears_12 : decode cX10_laneYears 12 = .ok (.aload_n 0, 1) := by decide +kernel
theorem dX10_laneYears_13 : decode cX10_laneYears 13 = .ok (.iload_n 1, 1) := by decide +kernel
theorem dX10_laneYears_14 : decode cX10_laneYears 14 = .ok (.invokevirtual 430, 3) := by decide +kernel
theorem dX10_laneYears_17 : decode cX10_laneYears 17 = .ok (.ireturn, 1) := by decide +kernel
theorem dX10_failing_0 : decode cX10_failing 0 = .ok (.aload_n 0, 1) := by decide +kernel
theorem dX10_failing_1 : decode cX10_failing 1 = .ok (.iconst 0, 1) := by decide +kernel
theorem dX10_failing_2 : decode cX10_failing 2 = .ok (.putfield 54, 3) := by decide +kernel
theorem dX10_failing_5 : decode cX10_failing 5 = .ok (.aload_n 0, 1) := by decide +kernel
theorem dX10_failing_6 : decode cX10_failing 6 = .ok (.iload_n 1, 1) := by decide +kernel
theorem dX10_failing_7 : decode cX10_failing 7 = .ok (.iconst 1, 1) := by decide +kernel
theorem dX10_failing_8 : decode cX10_failing 8 = .ok (.invokevirtual 433, 3) := by decide +kernel
theorem dX10_failing_11 : decode cX10_failing 11 = .ok (.ifCond .eq 5, 3) := by decide +kernel
theorem dX10_failing_14 : decode cX10_failing 14 = .ok (.iconst 0, 1) := by decide +kernel
theorem dX10_failing_15 : decode cX10_failing 15 = .ok (.ireturn, 1) := by decide +kernel
theorem dX10_failing_16 : decode cX10_failing 16 = .ok (.iconst 0, 1) := by decide +kernel
theorem dX10_failing_17 : decode cX10_failing 17 = .ok (.istore_n 2, 1) := by decide +kernel
theorem dX10_failing_18 : decode cX10_failing 18 = .ok (.iconst 0, 1) := by decide +kernel
theorem dX10_failing_19 : decode cX10_failing 19 = .ok (.istore_n 3, 1) := by decide +kernel
theorem dX10_failing_20 : decode cX10_failing 20 = .ok (.iload_n 3, 1) := by decide +kernel
theorem dX10_failing_21 : decode cX10_failing 21 = .ok (.aload_n 0, 1) := by decide +kernel
theorem dX10_failing_22 : decode cX10_failing 22 = .ok (.invokevirtual 191, 3) := by decide +kernel
theorem dX10_failing_25 : decode cX10_failing 25 = .ok (.if_icmp .ge 26, 3) := by decide +kernel
theorem dX10_failing_28 : decode cX10_failing 28 = .ok (.iload_n 2, 1) := by decide +kernel
theorem dX10_failing_29 : decode cX10_failing 29 = .ok (.aload_n 0, 1) := by decide +kernel
theorem dX10_failing_30 : decode cX10_failing 30 = .ok (.iload_n 3, 1) := by decide +kernel
theorem dX10_failing_31 : decode cX10_failing 31 = .ok (.invokevirtual 186, 3) := by decide +kernel
theorem dX10_failing_34 : decode cX10_failing 34 = .ok (.iload_n 1, 1) := by decide +kernel
theorem dX10_failing_35 : decode cX10_failing 35 = .ok (.if_icmp .gt 7, 3) := by decide +kernel
theorem dX10_failing_38 : decode cX10_failing 38 = .ok (.iconst 1, 1) := by decide +kernel
theorem dX10_failing_39 : decode cX10_failing 39 = .ok (.goto 4, 3) := by decide +kernel
theorem dX10_failing_42 : decode cX10_failing 42 = .ok (.iconst 0, 1) := by decide +kernel
theorem dX10_failing_43 : decode cX10_failing 43 = .ok (.iadd, 1) := by decide +kernel
theorem dX10_failing_44 : decode cX10_failing 44 = .ok (.istore_n 2, 1) := by decide +kernel
theorem dX10_failing_45 : decode cX10_failing 45 = .ok (.iinc 3 1, 3) := by decide +kernel
theorem dX10_failing_48 : decode cX10_failing 48 = .ok (.goto (-28), 3) := by decide +kernel
theorem dX10_failing_51 : decode cX10_failing 51 = .ok (.iload_n 2, 1) := by decide +kernel
theorem dX10_failing_52 : decode cX10_failing 52 = .ok (.ireturn, 1) := by decide +kernel
theorem dX10_rutIn_0 : decode cX10_rutIn 0 = .ok (.aload_n 0, 1) := by decide +kernel
theorem dX10_rutIn_1 : decode cX10_rutIn 1 = .ok (.iload_n 1, 1) := by decide +kernel
theorem dX10_rutIn_2 : decode cX10_rutIn 2 = .ok (.invokevirtual 386, 3) := by decide +kernel
theorem dX10_rutIn_5 : decode cX10_rutIn 5 = .ok (.ifCond .ne 12, 3) := by decide +kernel
theorem dX10_rutIn_8 : decode cX10_rutIn 8 = .ok (.aload_n 0, 1) := by decide +kernel
theorem dX10_rutIn_9 : decode cX10_rutIn 9 = .ok (.iload_n 2, 1) := by decide +kernel
theorem dX10_rutIn_10 : decode cX10_rutIn 10 = .ok (.iconst 2, 1) := by decide +kernel
theorem dX10_rutIn_11 : decode cX10_rutIn 11 = .ok (.invokevirtual 433, 3) := by decide +kernel
theorem dX10_rutIn_14 : decode cX10_rutIn 14 = .ok (.ifCond .eq 5, 3) := by decide +kernel
theorem dX10_rutIn_17 : decode cX10_rutIn 17 = .ok (.iconst 0, 1) := by decide +kernel
theorem dX10_rutIn_18 : decode cX10_rutIn 18 = .ok (.ireturn, 1) := by decide +kernel
theorem dX10_rutIn_19 : decode cX10_rutIn 19 = .ok (.aload_n 0, 1) := by decide +kernel
theorem dX10_rutIn_20 : decode cX10_rutIn 20 = .ok (.iload_n 1, 1) := by decide +kernel
theorem dX10_rutIn_21 : decode cX10_rutIn 21 = .ok (.iload_n 2, 1) := by decide +kernel
theorem dX10_rutIn_22 : decode cX10_rutIn 22 = .ok (.invokevirtual 436, 3) := by decide +kernel
theorem dX10_rutIn_25 : decode cX10_rutIn 25 = .ok (.aload_n 0, 1) := by decide +kernel
theorem dX10_rutIn_26 : decode cX10_rutIn 26 = .ok (.getfield 150, 3) := by decide +kernel
theorem dX10_rutIn_29 : decode cX10_rutIn 29 = .ok (.ireturn, 1) := by decide +kernel
theorem dX10_wornIn_0 : decode cX10_wornIn 0 = .ok (.aload_n 0, 1) := by decide +kernel
theorem dX10_wornIn_1 : decode cX10_wornIn 1 = .ok (.iload_n 1, 1) := by decide +kernel
theorem dX10_wornIn_2 : decode cX10_wornIn 2 = .ok (.invokevirtual 386, 3) := by decide +kernel
theorem dX10_wornIn_5 : decode cX10_wornIn 5 = .ok (.ifCond .ne 12, 3) := by decide +kernel
theorem dX10_wornIn_8 : decode cX10_wornIn 8 = .ok (.aload_n 0, 1) := by decide +kernel
theorem dX10_wornIn_9 : decode cX10_wornIn 9 = .ok (.iload_n 2, 1) := by decide +kernel
theorem dX10_wornIn_10 : decode cX10_wornIn 10 = .ok (.iconst 2, 1) := by decide +kernel
theorem dX10_wornIn_11 : decode cX10_wornIn 11 = .ok (.invokevirtual 433, 3) := by decide +kernel
theorem dX10_wornIn_14 : decode cX10_wornIn 14 = .ok (.ifCond .eq 5, 3) := by decide +kernel
theorem dX10_wornIn_17 : decode cX10_wornIn 17 = .ok (.lconst 0, 1) := by decide +kernel
theorem dX10_wornIn_18 : decode cX10_wornIn 18 = .ok (.lreturn, 1) := by decide +kernel
theorem dX10_wornIn_19 : decode cX10_wornIn 19 = .ok (.aload_n 0, 1) := by decide +kernel
theorem dX10_wornIn_20 : decode cX10_wornIn 20 = .ok (.iload_n 1, 1) := by decide +kernel
theorem dX10_wornIn_21 : decode cX10_wornIn 21 = .ok (.iload_n 2, 1) := by decide +kernel
theorem dX10_wornIn_22 : decode cX10_wornIn 22 = .ok (.invokevirtual 436, 3) := by decide +kernel
theorem dX10_wornIn_25 : decode cX10_wornIn 25 = .ok (.aload_n 0, 1) := by decide +kernel
theorem dX10_wornIn_26 : decode cX10_wornIn 26 = .ok (.getfield 153, 3) := by decide +kernel
theorem dX10_wornIn_29 : decode cX10_wornIn 29 = .ok (.lreturn, 1) := by decide +kernel
theorem dX10_countIn_0 : decode cX10_countIn 0 = .ok (.aload_n 0, 1) := by decide +kernel
theorem dX10_countIn_1 : decode cX10_countIn 1 = .ok (.iload_n 1, 1) := by decide +kernel
theorem dX10_countIn_2 : decode cX10_countIn 2 = .ok (.invokevirtual 419, 3) := by decide +kernel
theorem dX10_countIn_5 : decode cX10_countIn 5 = .ok (.ifCond .ne 12, 3) := by decide +kernel
theorem dX10_countIn_8 : decode cX10_countIn 8 = .ok (.aload_n 0, 1) := by decide +kernel
theorem dX10_countIn_9 : decode cX10_countIn 9 = .ok (.iload_n 2, 1) := by decide +kernel
theorem dX10_countIn_10 : decode cX10_countIn 10 = .ok (.iconst 2, 1) := by decide +kernel
theorem dX10_countIn_11 : decode cX10_countIn 11 = .ok (.invokevirtual 433, 3) := by decide +kernel
theorem dX10_countIn_14 : decode cX10_countIn 14 = .ok (.ifCond .eq 5, 3) := by decide +kernel
theorem dX10_countIn_17 : decode cX10_countIn 17 = .ok (.iconst 0, 1) := by decide +kernel
theorem dX10_countIn_18 : decode cX10_countIn 18 = .ok (.ireturn, 1) := by decide +kernel
theorem dX10_countIn_19 : decode cX10_countIn 19 = .ok (.aload_n 0, 1) := by decide +kernel
theorem dX10_countIn_20 : decode cX10_countIn 20 = .ok (.invokevirtual 147, 3) := by decide +kernel
theorem dX10_countIn_23 : decode cX10_countIn 23 = .ok (.iconst 0, 1) := by decide +kernel
theorem dX10_countIn_24 : decode cX10_countIn 24 = .ok (.istore_n 3, 1) := by decide +kernel
theorem dX10_countIn_25 : decode cX10_countIn 25 = .ok (.iload_n 3, 1) := by decide +kernel
theorem dX10_countIn_26 : decode cX10_countIn 26 = .ok (.iload_n 2, 1) := by decide +kernel
theorem dX10_countIn_27 : decode cX10_countIn 27 = .ok (.if_icmp .ge 13, 3) := by decide +kernel
theorem dX10_countIn_30 : decode cX10_countIn 30 = .ok (.aload_n 0, 1) := by decide +kernel
theorem dX10_countIn_31 : decode cX10_countIn 31 = .ok (.invokevirtual 164, 3) := by decide +kernel
theorem dX10_countIn_34 : decode cX10_countIn 34 = .ok (.iinc 3 1, 3) := by decide +kernel
theorem dX10_countIn_37 : decode cX10_countIn 37 = .ok (.goto (-12), 3) := by decide +kernel
theorem dX10_countIn_40 : decode cX10_countIn 40 = .ok (.aload_n 0, 1) := by decide +kernel
theorem dX10_countIn_41 : decode cX10_countIn 41 = .ok (.getfield 32, 3) := by decide +kernel
theorem dX10_countIn_44 : decode cX10_countIn 44 = .ok (.iload_n 1, 1) := by decide +kernel
theorem dX10_countIn_45 : decode cX10_countIn 45 = .ok (.iaload, 1) := by decide +kernel
theorem dX10_countIn_46 : decode cX10_countIn 46 = .ok (.ireturn, 1) := by decide +kernel
theorem dX10_yearsWith_0 : decode cX10_yearsWith 0 = .ok (.aload_n 0, 1) := by decide +kernel
theorem dX10_yearsWith_1 : decode cX10_yearsWith 1 = .ok (.iload_n 1, 1) := by decide +kernel
theorem dX10_yearsWith_2 : decode cX10_yearsWith 2 = .ok (.invokevirtual 386, 3) := by decide +kernel
theorem dX10_yearsWith_5 : decode cX10_yearsWith 5 = .ok (.ifCond .ne 28, 3) := by decide +kernel
theorem dX10_yearsWith_8 : decode cX10_yearsWith 8 = .ok (.aload_n 0, 1) := by decide +kernel
theorem dX10_yearsWith_9 : decode cX10_yearsWith 9 = .ok (.iload_n 2, 1) := by decide +kernel
theorem dX10_yearsWith_10 : decode cX10_yearsWith 10 = .ok (.i2l, 1) := by decide +kernel
theorem dX10_yearsWith_11 : decode cX10_yearsWith 11 = .ok (.lconst 0, 1) := by decide +kernel
theorem dX10_yearsWith_12 : decode cX10_yearsWith 12 = .ok (.ldc2_w 440, 3) := by decide +kernel
theorem dX10_yearsWith_15 : decode cX10_yearsWith 15 = .ok (.invokestatic 129, 3) := by decide +kernel
theorem dX10_yearsWith_18 : decode cX10_yearsWith 18 = .ok (.ifCond .ne 7, 3) := by decide +kernel
theorem dX10_yearsWith_21 : decode cX10_yearsWith 21 = .ok (.iconst 1, 1) := by decide +kernel
theorem dX10_yearsWith_22 : decode cX10_yearsWith 22 = .ok (.goto 4, 3) := by decide +kernel
theorem dX10_yearsWith_25 : decode cX10_yearsWith 25 = .ok (.iconst 0, 1) := by decide +kernel
theorem dX10_yearsWith_26 : decode cX10_yearsWith 26 = .ok (.iconst 2, 1) := by decide +kernel
theorem dX10_yearsWith_27 : decode cX10_yearsWith 27 = .ok (.invokevirtual 380, 3) := by decide +kernel
theorem dX10_yearsWith_30 : decode cX10_yearsWith 30 = .ok (.ifCond .eq 5, 3) := by decide +kernel
theorem dX10_yearsWith_33 : decode cX10_yearsWith 33 = .ok (.iconst 0, 1) := by decide +kernel
theorem dX10_yearsWith_34 : decode cX10_yearsWith 34 = .ok (.ireturn, 1) := by decide +kernel
theorem dX10_yearsWith_35 : decode cX10_yearsWith 35 = .ok (.aload_n 0, 1) := by decide +kernel
theorem dX10_yearsWith_36 : decode cX10_yearsWith 36 = .ok (.iload_n 1, 1) := by decide +kernel
theorem dX10_yearsWith_37 : decode cX10_yearsWith 37 = .ok (.invokevirtual 167, 3) := by decide +kernel
theorem dX10_yearsWith_40 : decode cX10_yearsWith 40 = .ok (.iconst 0, 1) := by decide +kernel
theorem dX10_yearsWith_41 : decode cX10_yearsWith 41 = .ok (.istore_n 3, 1) := by decide +kernel
theorem dX10_yearsWith_42 : decode cX10_yearsWith 42 = .ok (.iload_n 3, 1) := by decide +kernel
theorem dX10_yearsWith_43 : decode cX10_yearsWith 43 = .ok (.aload_n 0, 1) := by decide +kernel
theorem dX10_yearsWith_44 : decode cX10_yearsWith 44 = .ok (.getfield 7, 3) := by decide +kernel
theorem dX10_yearsWith_47 : decode cX10_yearsWith 47 = .ok (.bipush 9, 2) := by decide +kernel
theorem dX10_yearsWith_49 : decode cX10_yearsWith 49 = .ok (.iaload, 1) := by decide +kernel
theorem dX10_yearsWith_50 : decode cX10_yearsWith 50 = .ok (.if_icmp .ge 39, 3) := by decide +kernel
theorem dX10_yearsWith_53 : decode cX10_yearsWith 53 = .ok (.aload_n 0, 1) := by decide +kernel
theorem dX10_yearsWith_54 : decode cX10_yearsWith 54 = .ok (.getfield 32, 3) := by decide +kernel
theorem dX10_yearsWith_57 : decode cX10_yearsWith 57 = .ok (.iload_n 3, 1) := by decide +kernel
theorem dX10_yearsWith_58 : decode cX10_yearsWith 58 = .ok (.ldc2_w 115, 3) := by decide +kernel
theorem dX10_yearsWith_61 : decode cX10_yearsWith 61 = .ok (.aload_n 0, 1) := by decide +kernel
theorem dX10_yearsWith_62 : decode cX10_yearsWith 62 = .ok (.getfield 32, 3) := by decide +kernel
theorem dX10_yearsWith_65 : decode cX10_yearsWith 65 = .ok (.iload_n 3, 1) := by decide +kernel
theorem dX10_yearsWith_66 : decode cX10_yearsWith 66 = .ok (.iaload, 1) := by decide +kernel
theorem dX10_yearsWith_67 : decode cX10_yearsWith 67 = .ok (.i2l, 1) := by decide +kernel
theorem dX10_yearsWith_68 : decode cX10_yearsWith 68 = .ok (.bipush 100, 2) := by decide +kernel
theorem dX10_yearsWith_70 : decode cX10_yearsWith 70 = .ok (.iload_n 2, 1) := by decide +kernel
theorem dX10_yearsWith_71 : decode cX10_yearsWith 71 = .ok (.iadd, 1) := by decide +kernel
theorem dX10_yearsWith_72 : decode cX10_yearsWith 72 = .ok (.i2l, 1) := by decide +kernel
theorem dX10_yearsWith_73 : decode cX10_yearsWith 73 = .ok (.lmul, 1) := by decide +kernel
theorem dX10_yearsWith_74 : decode cX10_yearsWith 74 = .ok (.ldc2_w 117, 3) := by decide +kernel
theorem dX10_yearsWith_77 : decode cX10_yearsWith 77 = .ok (.ldiv, 1) := by decide +kernel
theorem dX10_yearsWith_78 : decode cX10_yearsWith 78 = .ok (.invokestatic 119, 3) := by decide +kernel
theorem dX10_yearsWith_81 : decode cX10_yearsWith 81 = .ok (.l2i, 1) := by decide +kernel
theorem dX10_yearsWith_82 : decode cX10_yearsWith 82 = .ok (.iastore, 1) := by decide +kernel
theorem dX10_yearsWith_83 : decode cX10_yearsWith 83 = .ok (.iinc 3 1, 3) := by decide +kernel
theorem dX10_yearsWith_86 : decode cX10_yearsWith 86 = .ok (.goto (-44), 3) := by decide +kernel
theorem dX10_yearsWith_89 : decode cX10_yearsWith 89 = .ok (.aload_n 0, 1) := by decide +kernel
theorem dX10_yearsWith_90 : decode cX10_yearsWith 90 = .ok (.iload_n 1, 1) := by decide +kernel
theorem dX10_yearsWith_91 : decode cX10_yearsWith 91 = .ok (.invokevirtual 180, 3) := by decide +kernel
theorem dX10_yearsWith_94 : decode cX10_yearsWith 94 = .ok (.ireturn, 1) := by decide +kernel
theorem dX10_yearsIfClosed_0 : decode cX10_yearsIfClosed 0 = .ok (.aload_n 0, 1) := by decide +kernel
theorem dX10_yearsIfClosed_1 : decode cX10_yearsIfClosed 1 = .ok (.iload_n 1, 1) := by decide +kernel
theorem dX10_yearsIfClosed_2 : decode cX10_yearsIfClosed 2 = .ok (.invokevirtual 427, 3) := by decide +kernel
theorem dX10_yearsIfClosed_5 : decode cX10_yearsIfClosed 5 = .ok (.ifCond .ne 11, 3) := by decide +kernel
theorem dX10_yearsIfClosed_8 : decode cX10_yearsIfClosed 8 = .ok (.aload_n 0, 1) := by decide +kernel
theorem dX10_yearsIfClosed_9 : decode cX10_yearsIfClosed 9 = .ok (.iload_n 2, 1) := by decide +kernel
theorem dX10_yearsIfClosed_10 : decode cX10_yearsIfClosed 10 = .ok (.invokevirtual 427, 3) := by decide +kernel
theorem dX10_yearsIfClosed_13 : decode cX10_yearsIfClosed 13 = .ok (.ifCond .eq 5, 3) := by decide +kernel
theorem dX10_yearsIfClosed_16 : decode cX10_yearsIfClosed 16 = .ok (.iconst 0, 1) := by decide +kernel
theorem dX10_yearsIfClosed_17 : decode cX10_yearsIfClosed 17 = .ok (.ireturn, 1) := by decide +kernel
theorem dX10_yearsIfClosed_18 : decode cX10_yearsIfClosed 18 = .ok (.aload_n 0, 1) := by decide +kernel
theorem dX10_yearsIfClosed_19 : decode cX10_yearsIfClosed 19 = .ok (.getfield 7, 3) := by decide +kernel
theorem dX10_yearsIfClosed_22 : decode cX10_yearsIfClosed 22 = .ok (.bipush 15, 2) := by decide +kernel
theorem dX10_yearsIfClosed_24 : decode cX10_yearsIfClosed 24 = .ok (.iaload, 1) := by decide +kernel
theorem dX10_yearsIfClosed_25 : decode cX10_yearsIfClosed 25 = .ok (.istore_n 3, 1) := by decide +kernel
theorem dX10_yearsIfClosed_26 : decode cX10_yearsIfClosed 26 = .ok (.aload_n 0, 1) := by decide +kernel
theorem dX10_yearsIfClosed_27 : decode cX10_yearsIfClosed 27 = .ok (.getfield 7, 3) := by decide +kernel
theorem dX10_yearsIfClosed_30 : decode cX10_yearsIfClosed 30 = .ok (.bipush 15, 2) := by decide +kernel
theorem dX10_yearsIfClosed_32 : decode cX10_yearsIfClosed 32 = .ok (.dup2, 1) := by decide +kernel
theorem dX10_yearsIfClosed_33 : decode cX10_yearsIfClosed 33 = .ok (.iaload, 1) := by decide +kernel
theorem dX10_yearsIfClosed_34 : decode cX10_yearsIfClosed 34 = .ok (.iconst 1, 1) := by decide +kernel
theorem dX10_yearsIfClosed_35 : decode cX10_yearsIfClosed 35 = .ok (.iload_n 2, 1) := by decide +kernel
theorem dX10_yearsIfClosed_36 : decode cX10_yearsIfClosed 36 = .ok (.ishl, 1) := by decide +kernel
theorem dX10_yearsIfClosed_37 : decode cX10_yearsIfClosed 37 = .ok (.ior, 1) := by decide +kernel
theorem dX10_yearsIfClosed_38 : decode cX10_yearsIfClosed 38 = .ok (.iastore, 1) := by decide +kernel
theorem dX10_yearsIfClosed_39 : decode cX10_yearsIfClosed 39 = .ok (.aload_n 0, 1) := by decide +kernel
theorem dX10_yearsIfClosed_40 : decode cX10_yearsIfClosed 40 = .ok (.iload_n 1, 1) := by decide +kernel
theorem dX10_yearsIfClosed_41 : decode cX10_yearsIfClosed 41 = .ok (.invokevirtual 430, 3) := by decide +kernel
theorem dX10_yearsIfClosed_44 : decode cX10_yearsIfClosed 44 = .ok (.istore 4, 2) := by decide +kernel
theorem dX10_yearsIfClosed_46 : decode cX10_yearsIfClosed 46 = .ok (.aload_n 0, 1) := by decide +kernel
theorem dX10_yearsIfClosed_47 : decode cX10_yearsIfClosed 47 = .ok (.getfield 7, 3) := by decide +kernel
theorem dX10_yearsIfClosed_50 : decode cX10_yearsIfClosed 50 = .ok (.bipush 15, 2) := by decide +kernel
theorem dX10_yearsIfClosed_52 : decode cX10_yearsIfClosed 52 = .ok (.iload_n 3, 1) := by decide +kernel
theorem dX10_yearsIfClosed_53 : decode cX10_yearsIfClosed 53 = .ok (.iastore, 1) := by decide +kernel
theorem dX10_yearsIfClosed_54 : decode cX10_yearsIfClosed 54 = .ok (.iload 4, 2) := by decide +kernel
theorem dX10_yearsIfClosed_56 : decode cX10_yearsIfClosed 56 = .ok (.ireturn, 1) := by decide +kernel
theorem dX10_baseOf_0 : decode cX10_baseOf 0 = .ok (.aload_n 0, 1) := by decide +kernel
theorem dX10_baseOf_1 : decode cX10_baseOf 1 = .ok (.iload_n 1, 1) := by decide +kernel
theorem dX10_baseOf_2 : decode cX10_baseOf 2 = .ok (.invokevirtual 419, 3) := by decide +kernel
theorem dX10_baseOf_5 : decode cX10_baseOf 5 = .ok (.ifCond .ne 11, 3) := by decide +kernel
theorem dX10_baseOf_8 : decode cX10_baseOf 8 = .ok (.aload_n 0, 1) := by decide +kernel
theorem dX10_baseOf_9 : decode cX10_baseOf 9 = .ok (.iload_n 2, 1) := by decide +kernel
theorem dX10_baseOf_10 : decode cX10_baseOf 10 = .ok (.invokevirtual 386, 3) := by decide +kernel
theorem dX10_baseOf_13 : decode cX10_baseOf 13 = .ok (.ifCond .eq 5, 3) := by decide +kernel
theorem dX10_baseOf_16 : decode cX10_baseOf 16 = .ok (.lconst 0, 1) := by decide +kernel
theorem dX10_baseOf_17 : decode cX10_baseOf 17 = .ok (.lreturn, 1) := by decide +kernel
theorem dX10_baseOf_18 : decode cX10_baseOf 18 = .ok (.aload_n 0, 1) := by decide +kernel
theorem dX10_baseOf_19 : decode cX10_baseOf 19 = .ok (.invokevirtual 147, 3) := by decide +kernel
theorem dX10_baseOf_22 : decode cX10_baseOf 22 = .ok (.aload_n 0, 1) := by decide +kernel
theorem dX10_baseOf_23 : decode cX10_baseOf 23 = .ok (.iload_n 1, 1) := by decide +kernel
theorem dX10_baseOf_24 : decode cX10_baseOf 24 = .ok (.iload_n 2, 1) := by decide +kernel
theorem dX10_baseOf_25 : decode cX10_baseOf 25 = .ok (.invokevirtual 135, 3) := by decide +kernel
theorem dX10_baseOf_28 : decode cX10_baseOf 28 = .ok (.lreturn, 1) := by decide +kernel
theorem dX10_heaviest_0 : decode cX10_heaviest 0 = .ok (.aload_n 0, 1) := by decide +kernel
theorem dX10_heaviest_1 : decode cX10_heaviest 1 = .ok (.iload_n 1, 1) := by decide +kernel
theorem dX10_heaviest_2 : decode cX10_heaviest 2 = .ok (.invokevirtual 386, 3) := by decide +kernel
theorem dX10_heaviest_5 : decode cX10_heaviest 5 = .ok (.ifCond .eq 5, 3) := by decide +kernel
theorem dX10_heaviest_8 : decode cX10_heaviest 8 = .ok (.iconst 0, 1) := by decide +kernel
theorem dX10_heaviest_9 : decode cX10_heaviest 9 = .ok (.ireturn, 1) := by decide +kernel
theorem dX10_heaviest_10 : decode cX10_heaviest 10 = .ok (.aload_n 0, 1) := by decide +kernel
theorem dX10_heaviest_11 : decode cX10_heaviest 11 = .ok (.invokevirtual 147, 3) := by decide +kernel
theorem dX10_heaviest_14 : decode cX10_heaviest 14 = .ok (.iconst (-1), 1) := by decide +kernel
theorem dX10_heaviest_15 : decode cX10_heaviest 15 = .ok (.istore_n 2, 1) := by decide +kernel
theorem dX10_heaviest_16 : decode cX10_heaviest 16 = .ok (.lconst 0, 1) := by decide +kernel
theorem dX10_heaviest_17 : decode cX10_heaviest 17 = .ok (.lstore_n 3, 1) := by decide +kernel
theorem dX10_heaviest_18 : decode cX10_heaviest 18 = .ok (.iconst 0, 1) := by decide +kernel
theorem dX10_heaviest_19 : decode cX10_heaviest 19 = .ok (.istore 5, 2) := by decide +kernel
theorem dX10_heaviest_21 : decode cX10_heaviest 21 = .ok (.iload 5, 2) := by decide +kernel
theorem dX10_heaviest_23 : decode cX10_heaviest 23 = .ok (.aload_n 0, 1) := by decide +kernel
theorem dX10_heaviest_24 : decode cX10_heaviest 24 = .ok (.getfield 7, 3) := by decide +kernel
theorem dX10_heaviest_27 : decode cX10_heaviest 27 = .ok (.bipush 9, 2) := by decide +kernel
theorem dX10_heaviest_29 : decode cX10_heaviest 29 = .ok (.iaload, 1) := by decide +kernel
theorem dX10_heaviest_30 : decode cX10_heaviest 30 = .ok (.if_icmp .ge 35, 3) := by decide +kernel
theorem dX10_heaviest_33 : decode cX10_heaviest 33 = .ok (.aload_n 0, 1) := by decide +kernel
theorem dX10_heaviest_34 : decode cX10_heaviest 34 = .ok (.iload 5, 2) := by decide +kernel
theorem dX10_heaviest_36 : decode cX10_heaviest 36 = .ok (.iload_n 1, 1) := by decide +kernel
theorem dX10_heaviest_37 : decode cX10_heaviest 37 = .ok (.invokevirtual 135, 3) := by decide +kernel
theorem dX10_heaviest_40 : decode cX10_heaviest 40 = .ok (.lload_n 3, 1) := by decide +kernel
theorem dX10_heaviest_41 : decode cX10_heaviest 41 = .ok (.lcmp, 1) := by decide +kernel
theorem dX10_heaviest_42 : decode cX10_heaviest 42 = .ok (.ifCond .gt 6, 3) := by decide +kernel
theorem dX10_heaviest_45 : decode cX10_heaviest 45 = .ok (.goto 14, 3) := by decide +kernel
theorem dX10_heaviest_48 : decode cX10_heaviest 48 = .ok (.iload 5, 2) := by decide +kernel
theorem dX10_heaviest_50 : decode cX10_heaviest 50 = .ok (.istore_n 2, 1) := by decide +kernel
theorem dX10_heaviest_51 : decode cX10_heaviest 51 = .ok (.aload_n 0, 1) := by decide +kernel
theorem dX10_heaviest_52 : decode cX10_heaviest 52 = .ok (.iload 5, 2) := by decide +kernel
theorem dX10_heaviest_54 : decode cX10_heaviest 54 = .ok (.iload_n 1, 1) := by decide +kernel
theorem dX10_heaviest_55 : decode cX10_heaviest 55 = .ok (.invokevirtual 135, 3) := by decide +kernel
theorem dX10_heaviest_58 : decode cX10_heaviest 58 = .ok (.lstore_n 3, 1) := by decide +kernel
theorem dX10_heaviest_59 : decode cX10_heaviest 59 = .ok (.iinc 5 1, 3) := by decide +kernel
theorem dX10_heaviest_62 : decode cX10_heaviest 62 = .ok (.goto (-41), 3) := by decide +kernel
theorem dX10_heaviest_65 : decode cX10_heaviest 65 = .ok (.iload_n 2, 1) := by decide +kernel
theorem dX10_heaviest_66 : decode cX10_heaviest 66 = .ok (.ireturn, 1) := by decide +kernel
theorem dX10_firstFailing_0 : decode cX10_firstFailing 0 = .ok (.aload_n 0, 1) := by decide +kernel
theorem dX10_firstFailing_1 : decode cX10_firstFailing 1 = .ok (.iload_n 1, 1) := by decide +kernel
theorem dX10_firstFailing_2 : decode cX10_firstFailing 2 = .ok (.invokevirtual 427, 3) := by decide +kernel
theorem dX10_firstFailing_5 : decode cX10_firstFailing 5 = .ok (.ifCond .eq 5, 3) := by decide +kernel
theorem dX10_firstFailing_8 : decode cX10_firstFailing 8 = .ok (.iconst 0, 1) := by decide +kernel
theorem dX10_firstFailing_9 : decode cX10_firstFailing 9 = .ok (.ireturn, 1) := by decide +kernel
theorem dX10_firstFailing_10 : decode cX10_firstFailing 10 = .ok (.aload_n 0, 1) := by decide +kernel
theorem dX10_firstFailing_11 : decode cX10_firstFailing 11 = .ok (.iload_n 1, 1) := by decide +kernel
theorem dX10_firstFailing_12 : decode cX10_firstFailing 12 = .ok (.invokevirtual 430, 3) := by decide +kernel
theorem dX10_firstFailing_15 : decode cX10_firstFailing 15 = .ok (.istore_n 2, 1) := by decide +kernel
theorem dX10_firstFailing_16 : decode cX10_firstFailing 16 = .ok (.iconst 0, 1) := by decide +kernel
theorem dX10_firstFailing_17 : decode cX10_firstFailing 17 = .ok (.istore_n 3, 1) := by decide +kernel
theorem dX10_firstFailing_18 : decode cX10_firstFailing 18 = .ok (.iload_n 3, 1) := by decide +kernel
theorem dX10_firstFailing_19 : decode cX10_firstFailing 19 = .ok (.aload_n 0, 1) := by decide +kernel
theorem dX10_firstFailing_20 : decode cX10_firstFailing 20 = .ok (.getfield 7, 3) := by decide +kernel
theorem dX10_firstFailing_23 : decode cX10_firstFailing 23 = .ok (.bipush 6, 2) := by decide +kernel
theorem dX10_firstFailing_25 : decode cX10_firstFailing 25 = .ok (.iaload, 1) := by decide +kernel
theorem dX10_firstFailing_26 : decode cX10_firstFailing 26 = .ok (.if_icmp .ge 35, 3) := by decide +kernel
theorem dX10_firstFailing_29 : decode cX10_firstFailing 29 = .ok (.iload_n 2, 1) := by decide +kernel
theorem dX10_firstFailing_30 : decode cX10_firstFailing 30 = .ok (.iconst (-1), 1) := by decide +kernel
theorem dX10_firstFailing_31 : decode cX10_firstFailing 31 = .ok (.if_icmp .eq 30, 3) := by decide +kernel
theorem dX10_firstFailing_34 : decode cX10_firstFailing 34 = .ok (.aload_n 0, 1) := by decide +kernel
theorem dX10_firstFailing_35 : decode cX10_firstFailing 35 = .ok (.aload_n 0, 1) := by decide +kernel
theorem dX10_firstFailing_36 : decode cX10_firstFailing 36 = .ok (.getfield 7, 3) := by decide +kernel
theorem dX10_firstFailing_39 : decode cX10_firstFailing 39 = .ok (.bipush 6, 2) := by decide +kernel
theorem dX10_firstFailing_41 : decode cX10_firstFailing 41 = .ok (.iaload, 1) := by decide +kernel
theorem dX10_firstFailing_42 : decode cX10_firstFailing 42 = .ok (.iload_n 1, 1) := by decide +kernel
theorem dX10_firstFailing_43 : decode cX10_firstFailing 43 = .ok (.imul, 1) := by decide +kernel
theorem dX10_firstFailing_44 : decode cX10_firstFailing 44 = .ok (.iload_n 3, 1) := by decide +kernel
theorem dX10_firstFailing_45 : decode cX10_firstFailing 45 = .ok (.iadd, 1) := by decide +kernel
theorem dX10_firstFailing_46 : decode cX10_firstFailing 46 = .ok (.invokevirtual 183, 3) := by decide +kernel
theorem dX10_firstFailing_49 : decode cX10_firstFailing 49 = .ok (.iload_n 2, 1) := by decide +kernel
theorem dX10_firstFailing_50 : decode cX10_firstFailing 50 = .ok (.if_icmp .ne 5, 3) := by decide +kernel
theorem dX10_firstFailing_53 : decode cX10_firstFailing 53 = .ok (.iload_n 3, 1) := by decide +kernel
theorem dX10_firstFailing_54 : decode cX10_firstFailing 54 = .ok (.ireturn, 1) := by decide +kernel
theorem dX10_firstFailing_55 : decode cX10_firstFailing 55 = .ok (.iinc 3 1, 3) := by decide +kernel
theorem dX10_firstFailing_58 : decode cX10_firstFailing 58 = .ok (.goto (-40), 3) := by decide +kernel
theorem dX10_firstFailing_61 : decode cX10_firstFailing 61 = .ok (.iconst (-1), 1) := by decide +kernel
theorem dX10_firstFailing_62 : decode cX10_firstFailing 62 = .ok (.ireturn, 1) := by decide +kernel
theorem dX10_leastYears_0 : decode cX10_leastYears 0 = .ok (.bipush 61, 2) := by decide +kernel
theorem dX10_leastYears_2 : decode cX10_leastYears 2 = .ok (.istore_n 1, 1) := by decide +kernel
theorem dX10_leastYears_3 : decode cX10_leastYears 3 = .ok (.iconst 0, 1) := by decide +kernel
theorem dX10_leastYears_4 : decode cX10_leastYears 4 = .ok (.istore_n 2, 1) := by decide +kernel
theorem dX10_leastYears_5 : decode cX10_leastYears 5 = .ok (.iload_n 2, 1) := by decide +kernel
theorem dX10_leastYears_6 : decode cX10_leastYears 6 = .ok (.aload_n 0, 1) := by decide +kernel
theorem dX10_leastYears_7 : decode cX10_leastYears 7 = .ok (.invokevirtual 191, 3) := by decide +kernel
theorem dX10_leastYears_10 : decode cX10_leastYears 10 = .ok (.if_icmp .ge 19, 3) := by decide +kernel
theorem dX10_leastYears_13 : decode cX10_leastYears 13 = .ok (.iload_n 1, 1) := by decide +kernel
theorem dX10_leastYears_14 : decode cX10_leastYears 14 = .ok (.aload_n 0, 1) := by decide +kernel
theorem dX10_leastYears_15 : decode cX10_leastYears 15 = .ok (.iload_n 2, 1) := by decide +kernel
theorem dX10_leastYears_16 : decode cX10_leastYears 16 = .ok (.invokevirtual 186, 3) := by decide +kernel
theorem dX10_leastYears_19 : decode cX10_leastYears 19 = .ok (.invokestatic 189, 3) := by decide +kernel
theorem dX10_leastYears_22 : decode cX10_leastYears 22 = .ok (.istore_n 1, 1) := by decide +kernel
theorem dX10_leastYears_23 : decode cX10_leastYears 23 = .ok (.iinc 2 1, 3) := by decide +kernel
theorem dX10_leastYears_26 : decode cX10_leastYears 26 = .ok (.goto (-21), 3) := by decide +kernel
theorem dX10_leastYears_29 : decode cX10_leastYears 29 = .ok (.iload_n 1, 1) := by decide +kernel
theorem dX10_leastYears_30 : decode cX10_leastYears 30 = .ok (.ireturn, 1) := by decide +kernel
theorem dX10_safestClosing_0 : decode cX10_safestClosing 0 = .ok (.aload_n 0, 1) := by decide +kernel
theorem dX10_safestClosing_1 : decode cX10_safestClosing 1 = .ok (.iconst 0, 1) := by decide +kernel
theorem dX10_safestClosing_2 : decode cX10_safestClosing 2 = .ok (.putfield 54, 3) := by decide +kernel
theorem dX10_safestClosing_5 : decode cX10_safestClosing 5 = .ok (.aload_n 0, 1) := by decide +kernel
theorem dX10_safestClosing_6 : decode cX10_safestClosing 6 = .ok (.getfield 7, 3) := by decide +kernel
theorem dX10_safestClosing_9 : decode cX10_safestClosing 9 = .ok (.bipush 15, 2) := by decide +kernel
theorem dX10_safestClosing_11 : decode cX10_safestClosing 11 = .ok (.iaload, 1) := by decide +kernel
theorem dX10_safestClosing_12 : decode cX10_safestClosing 12 = .ok (.istore_n 1, 1) := by decide +kernel
theorem dX10_safestClosing_13 : decode cX10_safestClosing 13 = .ok (.iconst (-1), 1) := by decide +kernel
theorem dX10_safestClosing_14 : decode cX10_safestClosing 14 = .ok (.istore_n 2, 1) := by decide +kernel
theorem dX10_safestClosing_15 : decode cX10_safestClosing 15 = .ok (.iconst (-1), 1) := by decide +kernel
theorem dX10_safestClosing_16 : decode cX10_safestClosing 16 = .ok (.istore_n 3, 1) := by decide +kernel
theorem dX10_safestClosing_17 : decode cX10_safestClosing 17 = .ok (.iconst 0, 1) := by decide +kernel
theorem dX10_safestClosing_18 : decode cX10_safestClosing 18 = .ok (.istore 4, 2) := by decide +kernel
theorem dX10_safestClosing_20 : decode cX10_safestClosing 20 = .ok (.iload 4, 2) := by decide +kernel
theorem dX10_safestClosing_22 : decode cX10_safestClosing 22 = .ok (.aload_n 0, 1) := by decide +kernel
theorem dX10_safestClosing_23 : decode cX10_safestClosing 23 = .ok (.getfield 7, 3) := by decide +kernel
theorem dX10_safestClosing_26 : decode cX10_safestClosing 26 = .ok (.bipush 7, 2) := by decide +kernel
theorem dX10_safestClosing_28 : decode cX10_safestClosing 28 = .ok (.iaload, 1) := by decide +kernel
theorem dX10_safestClosing_29 : decode cX10_safestClosing 29 = .ok (.if_icmp .ge 56, 3) := by decide +kernel
theorem dX10_safestClosing_32 : decode cX10_safestClosing 32 = .ok (.iload_n 1, 1) := by decide +kernel
theorem dX10_safestClosing_33 : decode cX10_safestClosing 33 = .ok (.iload 4, 2) := by decide +kernel
theorem dX10_safestClosing_35 : decode cX10_safestClosing 35 = .ok (.ishr, 1) := by decide +kernel
theorem dX10_safestClosing_36 : decode cX10_safestClosing 36 = .ok (.iconst 1, 1) := by decide +kernel
theorem dX10_safestClosing_37 : decode cX10_safestClosing 37 = .ok (.iand, 1) := by decide +kernel
theorem dX10_safestClosing_38 : decode cX10_safestClosing 38 = .ok (.iconst 1, 1) := by decide +kernel
theorem dX10_safestClosing_39 : decode cX10_safestClosing 39 = .ok (.if_icmp .ne 6, 3) := by decide +kernel
theorem dX10_safestClosing_42 : decode cX10_safestClosing 42 = .ok (.goto 37, 3) := by decide +kernel
theorem dX10_safestClosing_45 : decode cX10_safestClosing 45 = .ok (.aload_n 0, 1) := by decide +kernel
theorem dX10_safestClosing_46 : decode cX10_safestClosing 46 = .ok (.getfield 7, 3) := by decide +kernel
theorem dX10_safestClosing_49 : decode cX10_safestClosing 49 = .ok (.bipush 15, 2) := by decide +kernel
theorem dX10_safestClosing_51 : decode cX10_safestClosing 51 = .ok (.iload_n 1, 1) := by decide +kernel
theorem dX10_safestClosing_52 : decode cX10_safestClosing 52 = .ok (.iconst 1, 1) := by decide +kernel
theorem dX10_safestClosing_53 : decode cX10_safestClosing 53 = .ok (.iload 4, 2) := by decide +kernel
theorem dX10_safestClosing_55 : decode cX10_safestClosing 55 = .ok (.ishl, 1) := by decide +kernel
theorem dX10_safestClosing_56 : decode cX10_safestClosing 56 = .ok (.ior, 1) := by decide +kernel
theorem dX10_safestClosing_57 : decode cX10_safestClosing 57 = .ok (.iastore, 1) := by decide +kernel
theorem dX10_safestClosing_58 : decode cX10_safestClosing 58 = .ok (.aload_n 0, 1) := by decide +kernel
theorem dX10_safestClosing_59 : decode cX10_safestClosing 59 = .ok (.invokevirtual 442, 3) := by decide +kernel
theorem dX10_safestClosing_62 : decode cX10_safestClosing 62 = .ok (.istore 5, 2) := by decide +kernel
theorem dX10_safestClosing_64 : decode cX10_safestClosing 64 = .ok (.iload 5, 2) := by decide +kernel
theorem dX10_safestClosing_66 : decode cX10_safestClosing 66 = .ok (.iload_n 3, 1) := by decide +kernel
theorem dX10_safestClosing_67 : decode cX10_safestClosing 67 = .ok (.if_icmp .gt 6, 3) := by decide +kernel
theorem dX10_safestClosing_70 : decode cX10_safestClosing 70 = .ok (.goto 9, 3) := by decide +kernel
theorem dX10_safestClosing_73 : decode cX10_safestClosing 73 = .ok (.iload 4, 2) := by decide +kernel
theorem dX10_safestClosing_75 : decode cX10_safestClosing 75 = .ok (.istore_n 2, 1) := by decide +kernel
theorem dX10_safestClosing_76 : decode cX10_safestClosing 76 = .ok (.iload 5, 2) := by decide +kernel
theorem dX10_safestClosing_78 : decode cX10_safestClosing 78 = .ok (.istore_n 3, 1) := by decide +kernel
theorem dX10_safestClosing_79 : decode cX10_safestClosing 79 = .ok (.iinc 4 1, 3) := by decide +kernel
theorem dX10_safestClosing_82 : decode cX10_safestClosing 82 = .ok (.goto (-62), 3) := by decide +kernel
theorem dX10_safestClosing_85 : decode cX10_safestClosing 85 = .ok (.aload_n 0, 1) := by decide +kernel
theorem dX10_safestClosing_86 : decode cX10_safestClosing 86 = .ok (.getfield 7, 3) := by decide +kernel
theorem dX10_safestClosing_89 : decode cX10_safestClosing 89 = .ok (.bipush 15, 2) := by decide +kernel
theorem dX10_safestClosing_91 : decode cX10_safestClosing 91 = .ok (.iload_n 1, 1) := by decide +kernel
theorem dX10_safestClosing_92 : decode cX10_safestClosing 92 = .ok (.iastore, 1) := by decide +kernel
theorem dX10_safestClosing_93 : decode cX10_safestClosing 93 = .ok (.iload_n 2, 1) := by decide +kernel
theorem dX10_safestClosing_94 : decode cX10_safestClosing 94 = .ok (.ireturn, 1) := by decide +kernel
theorem dX10_discardTells_0 : decode cX10_discardTells 0 = .ok (.aload_n 0, 1) := by decide +kernel
theorem dX10_discardTells_1 : decode cX10_discardTells 1 = .ok (.iload_n 1, 1) := by decide +kernel
theorem dX10_discardTells_2 : decode cX10_discardTells 2 = .ok (.invokevirtual 411, 3) := by decide +kernel
theorem dX10_discardTells_5 : decode cX10_discardTells 5 = .ok (.ifCond .eq 5, 3) := by decide +kernel
theorem dX10_discardTells_8 : decode cX10_discardTells 8 = .ok (.iconst 0, 1) := by decide +kernel
theorem dX10_discardTells_9 : decode cX10_discardTells 9 = .ok (.ireturn, 1) := by decide +kernel
theorem dX10_discardTells_10 : decode cX10_discardTells 10 = .ok (.iconst 0, 1) := by decide +kernel
theorem dX10_discardTells_11 : decode cX10_discardTells 11 = .ok (.istore_n 2, 1) := by decide +kernel
theorem dX10_discardTells_12 : decode cX10_discardTells 12 = .ok (.iload_n 2, 1) := by decide +kernel
theorem dX10_discardTells_13 : decode cX10_discardTells 13 = .ok (.aload_n 0, 1) := by decide +kernel
theorem dX10_discardTells_14 : decode cX10_discardTells 14 = .ok (.invokevirtual 191, 3) := by decide +kernel
theorem dX10_discardTells_17 : decode cX10_discardTells 17 = .ok (.if_icmp .ge 20, 3) := by decide +kernel
theorem dX10_discardTells_20 : decode cX10_discardTells 20 = .ok (.aload_n 0, 1) := by decide +kernel
theorem dX10_discardTells_21 : decode cX10_discardTells 21 = .ok (.getfield 45, 3) := by decide +kernel
theorem dX10_discardTells_24 : decode cX10_discardTells 24 = .ok (.iload_n 2, 1) := by decide +kernel
theorem dX10_discardTells_25 : decode cX10_discardTells 25 = .ok (.aload_n 0, 1) := by decide +kernel
theorem dX10_discardTells_26 : decode cX10_discardTells 26 = .ok (.iload_n 2, 1) := by decide +kernel
theorem dX10_discardTells_27 : decode cX10_discardTells 27 = .ok (.invokevirtual 105, 3) := by decide +kernel
theorem dX10_discardTells_30 : decode cX10_discardTells 30 = .ok (.iastore, 1) := by decide +kernel
theorem dX10_discardTells_31 : decode cX10_discardTells 31 = .ok (.iinc 2 1, 3) := by decide +kernel
theorem dX10_discardTells_34 : decode cX10_discardTells 34 = .ok (.goto (-22), 3) := by decide +kernel
theorem dX10_discardTells_37 : decode cX10_discardTells 37 = .ok (.aload_n 0, 1) := by decide +kernel
theorem dX10_discardTells_38 : decode cX10_discardTells 38 = .ok (.getfield 7, 3) := by decide +kernel
theorem dX10_discardTells_41 : decode cX10_discardTells 41 = .ok (.iconst 0, 1) := by decide +kernel
theorem dX10_discardTells_42 : decode cX10_discardTells 42 = .ok (.aload_n 0, 1) := by decide +kernel
theorem dX10_discardTells_43 : decode cX10_discardTells 43 = .ok (.getfield 13, 3) := by decide +kernel
theorem dX10_discardTells_46 : decode cX10_discardTells 46 = .ok (.iconst 0, 1) := by decide +kernel
theorem dX10_discardTells_47 : decode cX10_discardTells 47 = .ok (.sipush 400, 3) := by decide +kernel
theorem dX10_discardTells_50 : decode cX10_discardTells 50 = .ok (.invokestatic 60, 3) := by decide +kernel
theorem dX10_discardTells_53 : decode cX10_discardTells 53 = .ok (.aload_n 0, 1) := by decide +kernel
theorem dX10_discardTells_54 : decode cX10_discardTells 54 = .ok (.iload_n 1, 1) := by decide +kernel
theorem dX10_discardTells_55 : decode cX10_discardTells 55 = .ok (.invokevirtual 445, 3) := by decide +kernel
theorem dX10_discardTells_58 : decode cX10_discardTells 58 = .ok (.iconst 0, 1) := by decide +kernel
theorem dX10_discardTells_59 : decode cX10_discardTells 59 = .ok (.istore_n 2, 1) := by decide +kernel
theorem dX10_discardTells_60 : decode cX10_discardTells 60 = .ok (.iconst 0, 1) := by decide +kernel
theorem dX10_discardTells_61 : decode cX10_discardTells 61 = .ok (.istore_n 3, 1) := by decide +kernel
theorem dX10_discardTells_62 : decode cX10_discardTells 62 = .ok (.iload_n 3, 1) := by decide +kernel
theorem dX10_discardTells_63 : decode cX10_discardTells 63 = .ok (.aload_n 0, 1) := by decide +kernel
theorem dX10_discardTells_64 : decode cX10_discardTells 64 = .ok (.invokevirtual 191, 3) := by decide +kernel
theorem dX10_discardTells_67 : decode cX10_discardTells 67 = .ok (.if_icmp .ge 27, 3) := by decide +kernel
theorem dX10_discardTells_70 : decode cX10_discardTells 70 = .ok (.iload_n 2, 1) := by decide +kernel
theorem dX10_discardTells_71 : decode cX10_discardTells 71 = .ok (.aload_n 0, 1) := by decide +kernel
theorem dX10_discardTells_72 : decode cX10_discardTells 72 = .ok (.getfield 45, 3) := by decide +kernel
theorem dX10_discardTells_75 : decode cX10_discardTells 75 = .ok (.iload_n 3, 1) := by decide +kernel
theorem dX10_discardTells_76 : decode cX10_discardTells 76 = .ok (.iaload, 1) := by decide +kernel
theorem dX10_discardTells_77 : decode cX10_discardTells 77 = .ok (.aload_n 0, 1) := by decide +kernel
theorem dX10_discardTells_78 : decode cX10_discardTells 78 = .ok (.iload_n 3, 1) := by decide +kernel
theorem dX10_discardTells_79 : decode cX10_discardTells 79 = .ok (.invokevirtual 105, 3) := by decide +kernel
theorem dX10_discardTells_82 : decode cX10_discardTells 82 = .ok (.isub, 1) := by decide +kernel
theorem dX10_discardTells_83 : decode cX10_discardTells 83 = .ok (.invokestatic 72, 3) := by decide +kernel
theorem dX10_discardTells_86 : decode cX10_discardTells 86 = .ok (.iadd, 1) := by decide +kernel
theorem dX10_discardTells_87 : decode cX10_discardTells 87 = .ok (.istore_n 2, 1) := by decide +kernel
theorem dX10_discardTells_88 : decode cX10_discardTells 88 = .ok (.iinc 3 1, 3) := by decide +kernel
theorem dX10_discardTells_91 : decode cX10_discardTells 91 = .ok (.goto (-29), 3) := by decide +kernel
theorem dX10_discardTells_94 : decode cX10_discardTells 94 = .ok (.aload_n 0, 1) := by decide +kernel
theorem dX10_discardTells_95 : decode cX10_discardTells 95 = .ok (.getfield 13, 3) := by decide +kernel
theorem dX10_discardTells_98 : decode cX10_discardTells 98 = .ok (.iconst 0, 1) := by decide +kernel
theorem dX10_discardTells_99 : decode cX10_discardTells 99 = .ok (.aload_n 0, 1) := by decide +kernel
theorem dX10_discardTells_100 : decode cX10_discardTells 100 = .ok (.getfield 7, 3) := by decide +kernel
theorem dX10_discardTells_103 : decode cX10_discardTells 103 = .ok (.iconst 0, 1) := by decide +kernel
theorem dX10_discardTells_104 : decode cX10_discardTells 104 = .ok (.sipush 400, 3) := by decide +kernel
theorem dX10_discardTells_107 : decode cX10_discardTells 107 = .ok (.invokestatic 60, 3) := by decide +kernel
theorem dX10_discardTells_110 : decode cX10_discardTells 110 = .ok (.iload_n 2, 1) := by decide +kernel
theorem dX10_discardTells_111 : decode cX10_discardTells 111 = .ok (.ireturn, 1) := by decide +kernel
theorem dX10_weakest_0 : decode cX10_weakest 0 = .ok (.aload_n 0, 1) := by decide +kernel
theorem dX10_weakest_1 : decode cX10_weakest 1 = .ok (.iconst 0, 1) := by decide +kernel
theorem dX10_weakest_2 : decode cX10_weakest 2 = .ok (.putfield 54, 3) := by decide +kernel
theorem dX10_weakest_5 : decode cX10_weakest 5 = .ok (.aload_n 0, 1) := by decide +kernel
theorem dX10_weakest_6 : decode cX10_weakest 6 = .ok (.aload_n 0, 1) := by decide +kernel
theorem dX10_weakest_7 : decode cX10_weakest 7 = .ok (.invokevirtual 191, 3) := by decide +kernel
theorem dX10_weakest_10 : decode cX10_weakest 10 = .ok (.ifCond .ne 7, 3) := by decide +kernel
theorem dX10_weakest_13 : decode cX10_weakest 13 = .ok (.iconst 1, 1) := by decide +kernel
theorem dX10_weakest_14 : decode cX10_weakest 14 = .ok (.goto 4, 3) := by decide +kernel
theorem dX10_weakest_17 : decode cX10_weakest 17 = .ok (.iconst 0, 1) := by decide +kernel
theorem dX10_weakest_18 : decode cX10_weakest 18 = .ok (.iconst 1, 1) := by decide +kernel
theorem dX10_weakest_19 : decode cX10_weakest 19 = .ok (.invokevirtual 380, 3) := by decide +kernel
theorem dX10_weakest_22 : decode cX10_weakest 22 = .ok (.ifCond .eq 5, 3) := by decide +kernel
theorem dX10_weakest_25 : decode cX10_weakest 25 = .ok (.iconst 0, 1) := by decide +kernel
theorem dX10_weakest_26 : decode cX10_weakest 26 = .ok (.ireturn, 1) := by decide +kernel
theorem dX10_weakest_27 : decode cX10_weakest 27 = .ok (.iconst 0, 1) := by decide +kernel
theorem dX10_weakest_28 : decode cX10_weakest 28 = .ok (.istore_n 1, 1) := by decide +kernel
theorem dX10_weakest_29 : decode cX10_weakest 29 = .ok (.iconst 1, 1) := by decide +kernel
theorem dX10_weakest_30 : decode cX10_weakest 30 = .ok (.istore_n 2, 1) := by decide +kernel
theorem dX10_weakest_31 : decode cX10_weakest 31 = .ok (.iload_n 2, 1) := by decide +kernel
theorem dX10_weakest_32 : decode cX10_weakest 32 = .ok (.aload_n 0, 1) := by decide +kernel
theorem dX10_weakest_33 : decode cX10_weakest 33 = .ok (.invokevirtual 191, 3) := by decide +kernel
theorem dX10_weakest_36 : decode cX10_weakest 36 = .ok (.if_icmp .ge 24, 3) := by decide +kernel
theorem dX10_weakest_39 : decode cX10_weakest 39 = .ok (.aload_n 0, 1) := by decide +kernel
theorem dX10_weakest_40 : decode cX10_weakest 40 = .ok (.iload_n 2, 1) := by decide +kernel
theorem dX10_weakest_41 : decode cX10_weakest 41 = .ok (.invokevirtual 105, 3) := by decide +kernel
theorem dX10_weakest_44 : decode cX10_weakest 44 = .ok (.aload_n 0, 1) := by decide +kernel
theorem dX10_weakest_45 : decode cX10_weakest 45 = .ok (.iload_n 1, 1) := by decide +kernel
theorem dX10_weakest_46 : decode cX10_weakest 46 = .ok (.invokevirtual 105, 3) := by decide +kernel
theorem dX10_weakest_49 : decode cX10_weakest 49 = .ok (.if_icmp .ge 5, 3) := by decide +kernel
theorem dX10_weakest_52 : decode cX10_weakest 52 = .ok (.iload_n 2, 1) := by decide +kernel
theorem dX10_weakest_53 : decode cX10_weakest 53 = .ok (.istore_n 1, 1) := by decide +kernel
theorem dX10_weakest_54 : decode cX10_weakest 54 = .ok (.iinc 2 1, 3) := by decide +kernel
theorem dX10_weakest_57 : decode cX10_weakest 57 = .ok (.goto (-26), 3) := by decide +kernel
theorem dX10_weakest_60 : decode cX10_weakest 60 = .ok (.iload_n 1, 1) := by decide +kernel
theorem dX10_weakest_61 : decode cX10_weakest 61 = .ok (.ireturn, 1) := by decide +kernel
theorem dX10_nextCore_0 : decode cX10_nextCore 0 = .ok (.aload_n 0, 1) := by decide +kernel
theorem dX10_nextCore_1 : decode cX10_nextCore 1 = .ok (.iconst 0, 1) := by decide +kernel
theorem dX10_nextCore_2 : decode cX10_nextCore 2 = .ok (.putfield 54, 3) := by decide +kernel
theorem dX10_nextCore_5 : decode cX10_nextCore 5 = .ok (.iconst (-1), 1) := by decide +kernel
theorem dX10_nextCore_6 : decode cX10_nextCore 6 = .ok (.istore_n 1, 1) := by decide +kernel
theorem dX10_nextCore_7 : decode cX10_nextCore 7 = .ok (.iconst 0, 1) := by decide +kernel
theorem dX10_nextCore_8 : decode cX10_nextCore 8 = .ok (.istore_n 2, 1) := by decide +kernel
theorem dX10_nextCore_9 : decode cX10_nextCore 9 = .ok (.iconst 0, 1) := by decide +kernel
theorem dX10_nextCore_10 : decode cX10_nextCore 10 = .ok (.istore_n 3, 1) := by decide +kernel
theorem dX10_nextCore_11 : decode cX10_nextCore 11 = .ok (.iload_n 3, 1) := by decide +kernel
theorem dX10_nextCore_12 : decode cX10_nextCore 12 = .ok (.aload_n 0, 1) := by decide +kernel
theorem dX10_nextCore_13 : decode cX10_nextCore 13 = .ok (.invokevirtual 191, 3) := by decide +kernel
theorem dX10_nextCore_16 : decode cX10_nextCore 16 = .ok (.if_icmp .ge 66, 3) := by decide +kernel
theorem dX10_nextCore_19 : decode cX10_nextCore 19 = .ok (.aload_n 0, 1) := by decide +kernel
theorem dX10_nextCore_20 : decode cX10_nextCore 20 = .ok (.iload_n 3, 1) := by decide +kernel
theorem dX10_nextCore_21 : decode cX10_nextCore 21 = .ok (.iconst 2, 1) := by decide +kernel
theorem dX10_nextCore_22 : decode cX10_nextCore 22 = .ok (.invokevirtual 87, 3) := by decide +kernel
theorem dX10_nextCore_25 : decode cX10_nextCore 25 = .ok (.iconst 1, 1) := by decide +kernel
theorem dX10_nextCore_26 : decode cX10_nextCore 26 = .ok (.if_icmp .ne 6, 3) := by decide +kernel
theorem dX10_nextCore_29 : decode cX10_nextCore 29 = .ok (.goto 47, 3) := by decide +kernel
theorem dX10_nextCore_32 : decode cX10_nextCore 32 = .ok (.aload_n 0, 1) := by decide +kernel
theorem dX10_nextCore_33 : decode cX10_nextCore 33 = .ok (.getfield 7, 3) := by decide +kernel
theorem dX10_nextCore_36 : decode cX10_nextCore 36 = .ok (.bipush 8, 2) := by decide +kernel
theorem dX10_nextCore_38 : decode cX10_nextCore 38 = .ok (.iaload, 1) := by decide +kernel
theorem dX10_nextCore_39 : decode cX10_nextCore 39 = .ok (.ifCond .ne 7, 3) := by decide +kernel
theorem dX10_nextCore_42 : decode cX10_nextCore 42 = .ok (.iconst 1, 1) := by decide +kernel
theorem dX10_nextCore_43 : decode cX10_nextCore 43 = .ok (.goto 17, 3) := by decide +kernel
theorem dX10_nextCore_46 : decode cX10_nextCore 46 = .ok (.aload_n 0, 1) := by decide +kernel
theorem dX10_nextCore_47 : decode cX10_nextCore 47 = .ok (.iload_n 3, 1) := by decide +kernel
theorem dX10_nextCore_48 : decode cX10_nextCore 48 = .ok (.aload_n 0, 1) := by decide +kernel
theorem dX10_nextCore_49 : decode cX10_nextCore 49 = .ok (.aload_n 0, 1) := by decide +kernel
theorem dX10_nextCore_50 : decode cX10_nextCore 50 = .ok (.iload_n 3, 1) := by decide +kernel
theorem dX10_nextCore_51 : decode cX10_nextCore 51 = .ok (.invokevirtual 90, 3) := by decide +kernel
theorem dX10_nextCore_54 : decode cX10_nextCore 54 = .ok (.invokevirtual 80, 3) := by decide +kernel
theorem dX10_nextCore_57 : decode cX10_nextCore 57 = .ok (.invokevirtual 83, 3) := by decide +kernel
theorem dX10_nextCore_60 : decode cX10_nextCore 60 = .ok (.istore 4, 2) := by decide +kernel
theorem dX10_nextCore_62 : decode cX10_nextCore 62 = .ok (.iload 4, 2) := by decide +kernel
theorem dX10_nextCore_64 : decode cX10_nextCore 64 = .ok (.iload_n 2, 1) := by decide +kernel
theorem dX10_nextCore_65 : decode cX10_nextCore 65 = .ok (.if_icmp .gt 6, 3) := by decide +kernel
theorem dX10_nextCore_68 : decode cX10_nextCore 68 = .ok (.goto 8, 3) := by decide +kernel
theorem dX10_nextCore_71 : decode cX10_nextCore 71 = .ok (.iload_n 3, 1) := by decide +kernel
theorem dX10_nextCore_72 : decode cX10_nextCore 72 = .ok (.istore_n 1, 1) := by decide +kernel
theorem dX10_nextCore_73 : decode cX10_nextCore 73 = .ok (.iload 4, 2) := by decide +kernel
theorem dX10_nextCore_75 : decode cX10_nextCore 75 = .ok (.istore_n 2, 1) := by decide +kernel
theorem dX10_nextCore_76 : decode cX10_nextCore 76 = .ok (.iinc 3 1, 3) := by decide +kernel
theorem dX10_nextCore_79 : decode cX10_nextCore 79 = .ok (.goto (-68), 3) := by decide +kernel
theorem dX10_nextCore_82 : decode cX10_nextCore 82 = .ok (.iload_n 1, 1) := by decide +kernel
theorem dX10_nextCore_83 : decode cX10_nextCore 83 = .ok (.ireturn, 1) := by decide +kernel
theorem dX10_cost_0 : decode cX10_cost 0 = .ok (.aload_n 0, 1) := by decide +kernel
theorem dX10_cost_1 : decode cX10_cost 1 = .ok (.iload_n 1, 1) := by decide +kernel
theorem dX10_cost_2 : decode cX10_cost 2 = .ok (.iload_n 2, 1) := by decide +kernel
theorem dX10_cost_3 : decode cX10_cost 3 = .ok (.iload_n 3, 1) := by decide +kernel
theorem dX10_cost_4 : decode cX10_cost 4 = .ok (.invokevirtual 448, 3) := by decide +kernel
theorem dX10_cost_7 : decode cX10_cost 7 = .ok (.ifCond .eq 7, 3) := by decide +kernel
theorem dX10_cost_10 : decode cX10_cost 10 = .ok (.iconst 0, 1) := by decide +kernel
theorem dX10_cost_11 : decode cX10_cost 11 = .ok (.goto 10, 3) := by decide +kernel
theorem dX10_cost_14 : decode cX10_cost 14 = .ok (.aload_n 0, 1) := by decide +kernel
theorem dX10_cost_15 : decode cX10_cost 15 = .ok (.iload_n 1, 1) := by decide +kernel
theorem dX10_cost_16 : decode cX10_cost 16 = .ok (.iload_n 2, 1) := by decide +kernel
theorem dX10_cost_17 : decode cX10_cost 17 = .ok (.iload_n 3, 1) := by decide +kernel
theorem dX10_cost_18 : decode cX10_cost 18 = .ok (.invokevirtual 205, 3) := by decide +kernel
theorem dX10_cost_21 : decode cX10_cost 21 = .ok (.ireturn, 1) := by decide +kernel
theorem dX10_whyNot_0 : decode cX10_whyNot 0 = .ok (.aload_n 0, 1) := by decide +kernel
theorem dX10_whyNot_1 : decode cX10_whyNot 1 = .ok (.iload_n 1, 1) := by decide +kernel
theorem dX10_whyNot_2 : decode cX10_whyNot 2 = .ok (.iload_n 2, 1) := by decide +kernel
theorem dX10_whyNot_3 : decode cX10_whyNot 3 = .ok (.iload_n 3, 1) := by decide +kernel
theorem dX10_whyNot_4 : decode cX10_whyNot 4 = .ok (.invokevirtual 448, 3) := by decide +kernel
theorem dX10_whyNot_7 : decode cX10_whyNot 7 = .ok (.ifCond .eq 7, 3) := by decide +kernel
theorem dX10_whyNot_10 : decode cX10_whyNot 10 = .ok (.iconst 0, 1) := by decide +kernel
theorem dX10_whyNot_11 : decode cX10_whyNot 11 = .ok (.goto 10, 3) := by decide +kernel
theorem dX10_whyNot_14 : decode cX10_whyNot 14 = .ok (.aload_n 0, 1) := by decide +kernel
theorem dX10_whyNot_15 : decode cX10_whyNot 15 = .ok (.iload_n 1, 1) := by decide +kernel
theorem dX10_whyNot_16 : decode cX10_whyNot 16 = .ok (.iload_n 2, 1) := by decide +kernel
theorem dX10_whyNot_17 : decode cX10_whyNot 17 = .ok (.iload_n 3, 1) := by decide +kernel
theorem dX10_whyNot_18 : decode cX10_whyNot 18 = .ok (.invokevirtual 451, 3) := by decide +kernel
theorem dX10_whyNot_21 : decode cX10_whyNot 21 = .ok (.ireturn, 1) := by decide +kernel
theorem dX10_yearsBehind_0 : decode cX10_yearsBehind 0 = .ok (.aload_n 0, 1) := by decide +kernel
theorem dX10_yearsBehind_1 : decode cX10_yearsBehind 1 = .ok (.iload_n 1, 1) := by decide +kernel
theorem dX10_yearsBehind_2 : decode cX10_yearsBehind 2 = .ok (.iload_n 2, 1) := by decide +kernel
theorem dX10_yearsBehind_3 : decode cX10_yearsBehind 3 = .ok (.iload_n 3, 1) := by decide +kernel
theorem dX10_yearsBehind_4 : decode cX10_yearsBehind 4 = .ok (.invokevirtual 448, 3) := by decide +kernel
theorem dX10_yearsBehind_7 : decode cX10_yearsBehind 7 = .ok (.ifCond .eq 5, 3) := by decide +kernel
theorem dX10_yearsBehind_10 : decode cX10_yearsBehind 10 = .ok (.iconst 0, 1) := by decide +kernel
theorem dX10_yearsBehind_11 : decode cX10_yearsBehind 11 = .ok (.ireturn, 1) := by decide +kernel
theorem dX10_yearsBehind_12 : decode cX10_yearsBehind 12 = .ok (.aload_n 0, 1) := by decide +kernel
theorem dX10_yearsBehind_13 : decode cX10_yearsBehind 13 = .ok (.iload_n 1, 1) := by decide +kernel
theorem dX10_yearsBehind_14 : decode cX10_yearsBehind 14 = .ok (.iload_n 2, 1) := by decide +kernel
theorem dX10_yearsBehind_15 : decode cX10_yearsBehind 15 = .ok (.iload_n 3, 1) := by decide +kernel
theorem dX10_yearsBehind_16 : decode cX10_yearsBehind 16 = .ok (.invokevirtual 218, 3) := by decide +kernel
theorem dX10_yearsBehind_19 : decode cX10_yearsBehind 19 = .ok (.istore 4, 2) := by decide +kernel
theorem dX10_yearsBehind_21 : decode cX10_yearsBehind 21 = .ok (.iload 4, 2) := by decide +kernel
theorem dX10_yearsBehind_23 : decode cX10_yearsBehind 23 = .ok (.bipush 60, 2) := by decide +kernel
theorem dX10_yearsBehind_25 : decode cX10_yearsBehind 25 = .ok (.if_icmp .le 7, 3) := by decide +kernel
theorem dX10_yearsBehind_28 : decode cX10_yearsBehind 28 = .ok (.iconst (-1), 1) := by decide +kernel
theorem dX10_yearsBehind_29 : decode cX10_yearsBehind 29 = .ok (.goto 5, 3) := by decide +kernel
theorem dX10_yearsBehind_32 : decode cX10_yearsBehind 32 = .ok (.iload 4, 2) := by decide +kernel
theorem dX10_yearsBehind_34 : decode cX10_yearsBehind 34 = .ok (.ireturn, 1) := by decide +kernel
theorem dX10_cheapest_0 : decode cX10_cheapest 0 = .ok (.aload_n 0, 1) := by decide +kernel
theorem dX10_cheapest_1 : decode cX10_cheapest 1 = .ok (.iload_n 1, 1) := by decide +kernel
theorem dX10_cheapest_2 : decode cX10_cheapest 2 = .ok (.invokevirtual 386, 3) := by decide +kernel
theorem dX10_cheapest_5 : decode cX10_cheapest 5 = .ok (.ifCond .ne 12, 3) := by decide +kernel
theorem dX10_cheapest_8 : decode cX10_cheapest 8 = .ok (.aload_n 0, 1) := by decide +kernel
theorem dX10_cheapest_9 : decode cX10_cheapest 9 = .ok (.iload_n 2, 1) := by decide +kernel
theorem dX10_cheapest_10 : decode cX10_cheapest 10 = .ok (.iconst 2, 1) := by decide +kernel
theorem dX10_cheapest_11 : decode cX10_cheapest 11 = .ok (.invokevirtual 433, 3) := by decide +kernel
theorem dX10_cheapest_14 : decode cX10_cheapest 14 = .ok (.ifCond .eq 7, 3) := by decide +kernel
theorem dX10_cheapest_17 : decode cX10_cheapest 17 = .ok (.iconst 0, 1) := by decide +kernel
theorem dX10_cheapest_18 : decode cX10_cheapest 18 = .ok (.goto 9, 3) := by decide +kernel
theorem dX10_cheapest_21 : decode cX10_cheapest 21 = .ok (.aload_n 0, 1) := by decide +kernel
theorem dX10_cheapest_22 : decode cX10_cheapest 22 = .ok (.iload_n 1, 1) := by decide +kernel
theorem dX10_cheapest_23 : decode cX10_cheapest 23 = .ok (.iload_n 2, 1) := by decide +kernel
theorem dX10_cheapest_24 : decode cX10_cheapest 24 = .ok (.invokevirtual 454, 3) := by decide +kernel
theorem dX10_cheapest_27 : decode cX10_cheapest 27 = .ok (.ireturn, 1) := by decide +kernel
theorem dX10_planCost_0 : decode cX10_planCost 0 = .ok (.aload_n 0, 1) := by decide +kernel
theorem dX10_planCost_1 : decode cX10_planCost 1 = .ok (.iconst 0, 1) := by decide +kernel
theorem dX10_planCost_2 : decode cX10_planCost 2 = .ok (.putfield 54, 3) := by decide +kernel
theorem dX10_planCost_5 : decode cX10_planCost 5 = .ok (.aload_n 0, 1) := by decide +kernel
theorem dX10_planCost_6 : decode cX10_planCost 6 = .ok (.iload_n 1, 1) := by decide +kernel
theorem dX10_planCost_7 : decode cX10_planCost 7 = .ok (.iconst 1, 1) := by decide +kernel
theorem dX10_planCost_8 : decode cX10_planCost 8 = .ok (.invokevirtual 433, 3) := by decide +kernel
theorem dX10_planCost_11 : decode cX10_planCost 11 = .ok (.ifCond .eq 5, 3) := by decide +kernel
theorem dX10_planCost_14 : decode cX10_planCost 14 = .ok (.iconst 0, 1) := by decide +kernel
theorem dX10_planCost_15 : decode cX10_planCost 15 = .ok (.ireturn, 1) := by decide +kernel
theorem dX10_planCost_16 : decode cX10_planCost 16 = .ok (.iconst 0, 1) := by decide +kernel
theorem dX10_planCost_17 : decode cX10_planCost 17 = .ok (.istore_n 2, 1) := by decide +kernel
theorem dX10_planCost_18 : decode cX10_planCost 18 = .ok (.iconst 0, 1) := by decide +kernel
theorem dX10_planCost_19 : decode cX10_planCost 19 = .ok (.istore_n 3, 1) := by decide +kernel
theorem dX10_planCost_20 : decode cX10_planCost 20 = .ok (.iload_n 3, 1) := by decide +kernel
theorem dX10_planCost_21 : decode cX10_planCost 21 = .ok (.aload_n 0, 1) := by decide +kernel
theorem dX10_planCost_22 : decode cX10_planCost 22 = .ok (.invokevirtual 191, 3) := by decide +kernel
theorem dX10_planCost_25 : decode cX10_planCost 25 = .ok (.if_icmp .ge 53, 3) := by decide +kernel
theorem dX10_planCost_28 : decode cX10_planCost 28 = .ok (.aload_n 0, 1) := by decide +kernel
theorem dX10_planCost_29 : decode cX10_planCost 29 = .ok (.iload_n 3, 1) := by decide +kernel
theorem dX10_planCost_30 : decode cX10_planCost 30 = .ok (.iload_n 1, 1) := by decide +kernel
theorem dX10_planCost_31 : decode cX10_planCost 31 = .ok (.invokevirtual 454, 3) := by decide +kernel
theorem dX10_planCost_34 : decode cX10_planCost 34 = .ok (.istore 4, 2) := by decide +kernel
theorem dX10_planCost_36 : decode cX10_planCost 36 = .ok (.iload 4, 2) := by decide +kernel
theorem dX10_planCost_38 : decode cX10_planCost 38 = .ok (.iconst (-1), 1) := by decide +kernel
theorem dX10_planCost_39 : decode cX10_planCost 39 = .ok (.if_icmp .ne 5, 3) := by decide +kernel
theorem dX10_planCost_42 : decode cX10_planCost 42 = .ok (.iconst (-1), 1) := by decide +kernel
theorem dX10_planCost_43 : decode cX10_planCost 43 = .ok (.ireturn, 1) := by decide +kernel
theorem dX10_planCost_44 : decode cX10_planCost 44 = .ok (.iload_n 2, 1) := by decide +kernel
theorem dX10_planCost_45 : decode cX10_planCost 45 = .ok (.iload 4, 2) := by decide +kernel
theorem dX10_planCost_47 : decode cX10_planCost 47 = .ok (.ifCond .ne 7, 3) := by decide +kernel
theorem dX10_planCost_50 : decode cX10_planCost 50 = .ok (.iconst 0, 1) := by decide +kernel
theorem dX10_planCost_51 : decode cX10_planCost 51 = .ok (.goto 19, 3) := by decide +kernel
theorem dX10_planCost_54 : decode cX10_planCost 54 = .ok (.aload_n 0, 1) := by decide +kernel
theorem dX10_planCost_55 : decode cX10_planCost 55 = .ok (.iload 4, 2) := by decide +kernel
theorem dX10_planCost_57 : decode cX10_planCost 57 = .ok (.invokestatic 215, 3) := by decide +kernel
theorem dX10_planCost_60 : decode cX10_planCost 60 = .ok (.iload_n 3, 1) := by decide +kernel
theorem dX10_planCost_61 : decode cX10_planCost 61 = .ok (.iload 4, 2) := by decide +kernel
theorem dX10_planCost_63 : decode cX10_planCost 63 = .ok (.sipush 1000, 3) := by decide +kernel
theorem dX10_planCost_66 : decode cX10_planCost 66 = .ok (.irem, 1) := by decide +kernel
theorem dX10_planCost_67 : decode cX10_planCost 67 = .ok (.invokevirtual 205, 3) := by decide +kernel
theorem dX10_planCost_70 : decode cX10_planCost 70 = .ok (.iadd, 1) := by decide +kernel
theorem dX10_planCost_71 : decode cX10_planCost 71 = .ok (.istore_n 2, 1) := by decide +kernel
theorem dX10_planCost_72 : decode cX10_planCost 72 = .ok (.iinc 3 1, 3) := by decide +kernel
theorem dX10_planCost_75 : decode cX10_planCost 75 = .ok (.goto (-55), 3) := by decide +kernel
theorem dX10_planCost_78 : decode cX10_planCost 78 = .ok (.iload_n 2, 1) := by decide +kernel
theorem dX10_planCost_79 : decode cX10_planCost 79 = .ok (.ireturn, 1) := by decide +kernel
theorem dX10_meanRut_0 : decode cX10_meanRut 0 = .ok (.aload_n 0, 1) := by decide +kernel
theorem dX10_meanRut_1 : decode cX10_meanRut 1 = .ok (.iload_n 1, 1) := by decide +kernel
theorem dX10_meanRut_2 : decode cX10_meanRut 2 = .ok (.invokevirtual 427, 3) := by decide +kernel
theorem dX10_meanRut_5 : decode cX10_meanRut 5 = .ok (.ifCond .eq 5, 3) := by decide +kernel
theorem dX10_meanRut_8 : decode cX10_meanRut 8 = .ok (.dconst 0, 1) := by decide +kernel
theorem dX10_meanRut_9 : decode cX10_meanRut 9 = .ok (.dreturn, 1) := by decide +kernel
theorem dX10_meanRut_10 : decode cX10_meanRut 10 = .ok (.iconst 0, 1) := by decide +kernel
theorem dX10_meanRut_11 : decode cX10_meanRut 11 = .ok (.istore_n 2, 1) := by decide +kernel
theorem dX10_meanRut_12 : decode cX10_meanRut 12 = .ok (.iconst 0, 1) := by decide +kernel
theorem dX10_meanRut_13 : decode cX10_meanRut 13 = .ok (.istore_n 3, 1) := by decide +kernel
theorem dX10_meanRut_14 : decode cX10_meanRut 14 = .ok (.iload_n 3, 1) := by decide +kernel
theorem dX10_meanRut_15 : decode cX10_meanRut 15 = .ok (.aload_n 0, 1) := by decide +kernel
theorem dX10_meanRut_16 : decode cX10_meanRut 16 = .ok (.getfield 7, 3) := by decide +kernel
theorem dX10_meanRut_19 : decode cX10_meanRut 19 = .ok (.bipush 6, 2) := by decide +kernel
theorem dX10_meanRut_21 : decode cX10_meanRut 21 = .ok (.iaload, 1) := by decide +kernel
theorem dX10_meanRut_22 : decode cX10_meanRut 22 = .ok (.if_icmp .ge 28, 3) := by decide +kernel
theorem dX10_meanRut_25 : decode cX10_meanRut 25 = .ok (.iload_n 2, 1) := by decide +kernel
theorem dX10_meanRut_26 : decode cX10_meanRut 26 = .ok (.aload_n 0, 1) := by decide +kernel
theorem dX10_meanRut_27 : decode cX10_meanRut 27 = .ok (.aload_n 0, 1) := by decide +kernel
theorem dX10_meanRut_28 : decode cX10_meanRut 28 = .ok (.getfield 7, 3) := by decide +kernel
theorem dX10_meanRut_31 : decode cX10_meanRut 31 = .ok (.bipush 6, 2) := by decide +kernel
theorem dX10_meanRut_33 : decode cX10_meanRut 33 = .ok (.iaload, 1) := by decide +kernel
theorem dX10_meanRut_34 : decode cX10_meanRut 34 = .ok (.iload_n 1, 1) := by decide +kernel
theorem dX10_meanRut_35 : decode cX10_meanRut 35 = .ok (.imul, 1) := by decide +kernel
theorem dX10_meanRut_36 : decode cX10_meanRut 36 = .ok (.iload_n 3, 1) := by decide +kernel
theorem dX10_meanRut_37 : decode cX10_meanRut 37 = .ok (.iadd, 1) := by decide +kernel
theorem dX10_meanRut_38 : decode cX10_meanRut 38 = .ok (.iconst 0, 1) := by decide +kernel
theorem dX10_meanRut_39 : decode cX10_meanRut 39 = .ok (.invokevirtual 87, 3) := by decide +kernel
theorem dX10_meanRut_42 : decode cX10_meanRut 42 = .ok (.iadd, 1) := by decide +kernel
theorem dX10_meanRut_43 : decode cX10_meanRut 43 = .ok (.istore_n 2, 1) := by decide +kernel
theorem dX10_meanRut_44 : decode cX10_meanRut 44 = .ok (.iinc 3 1, 3) := by decide +kernel
theorem dX10_meanRut_47 : decode cX10_meanRut 47 = .ok (.goto (-33), 3) := by decide +kernel
theorem dX10_meanRut_50 : decode cX10_meanRut 50 = .ok (.iload_n 2, 1) := by decide +kernel
theorem dX10_meanRut_51 : decode cX10_meanRut 51 = .ok (.i2d, 1) := by decide +kernel
theorem dX10_meanRut_52 : decode cX10_meanRut 52 = .ok (.aload_n 0, 1) := by decide +kernel
theorem dX10_meanRut_53 : decode cX10_meanRut 53 = .ok (.getfield 7, 3) := by decide +kernel
theorem dX10_meanRut_56 : decode cX10_meanRut 56 = .ok (.bipush 6, 2) := by decide +kernel
theorem dX10_meanRut_58 : decode cX10_meanRut 58 = .ok (.iaload, 1) := by decide +kernel
theorem dX10_meanRut_59 : decode cX10_meanRut 59 = .ok (.i2d, 1) := by decide +kernel
theorem dX10_meanRut_60 : decode cX10_meanRut 60 = .ok (.ddiv, 1) := by decide +kernel
theorem dX10_meanRut_61 : decode cX10_meanRut 61 = .ok (.dreturn, 1) := by decide +kernel
theorem dX10_wornShare_0 : decode cX10_wornShare 0 = .ok (.aload_n 0, 1) := by decide +kernel
theorem dX10_wornShare_1 : decode cX10_wornShare 1 = .ok (.iload_n 1, 1) := by decide +kernel
theorem dX10_wornShare_2 : decode cX10_wornShare 2 = .ok (.invokevirtual 386, 3) := by decide +kernel
theorem dX10_wornShare_5 : decode cX10_wornShare 5 = .ok (.ifCond .eq 7, 3) := by decide +kernel
theorem dX10_wornShare_8 : decode cX10_wornShare 8 = .ok (.fconst 0, 1) := by decide +kernel
theorem dX10_wornShare_9 : decode cX10_wornShare 9 = .ok (.goto 17, 3) := by decide +kernel
theorem dX10_wornShare_12 : decode cX10_wornShare 12 = .ok (.aload_n 0, 1) := by decide +kernel
theorem dX10_wornShare_13 : decode cX10_wornShare 13 = .ok (.getfield 22, 3) := by decide +kernel
theorem dX10_wornShare_16 : decode cX10_wornShare 16 = .ok (.iload_n 1, 1) := by decide +kernel
theorem dX10_wornShare_17 : decode cX10_wornShare 17 = .ok (.laload, 1) := by decide +kernel
theorem dX10_wornShare_18 : decode cX10_wornShare 18 = .ok (.l2f, 1) := by decide +kernel
theorem dX10_wornShare_19 : decode cX10_wornShare 19 = .ok (.aload_n 0, 1) := by decide +kernel
theorem dX10_wornShare_20 : decode cX10_wornShare 20 = .ok (.iload_n 1, 1) := by decide +kernel
theorem dX10_wornShare_21 : decode cX10_wornShare 21 = .ok (.invokevirtual 174, 3) := by decide +kernel
theorem dX10_wornShare_24 : decode cX10_wornShare 24 = .ok (.l2f, 1) := by decide +kernel
theorem dX10_wornShare_25 : decode cX10_wornShare 25 = .ok (.fdiv, 1) := by decide +kernel
theorem dX10_wornShare_26 : decode cX10_wornShare 26 = .ok (.freturn, 1) := by decide +kernel
theorem dX10_pass_0 : decode cX10_pass 0 = .ok (.aload_n 0, 1) := by decide +kernel
theorem dX10_pass_1 : decode cX10_pass 1 = .ok (.iconst 0, 1) := by decide +kernel
theorem dX10_pass_2 : decode cX10_pass 2 = .ok (.putfield 54, 3) := by decide +kernel
theorem dX10_pass_5 : decode cX10_pass 5 = .ok (.aload_n 0, 1) := by decide +kernel
theorem dX10_pass_6 : decode cX10_pass 6 = .ok (.iload_n 1, 1) := by decide +kernel
theorem dX10_pass_7 : decode cX10_pass 7 = .ok (.iconst 1, 1) := by decide +kernel
theorem dX10_pass_8 : decode cX10_pass 8 = .ok (.invokevirtual 433, 3) := by decide +kernel
theorem dX10_pass_11 : decode cX10_pass 11 = .ok (.ifCond .ne 38, 3) := by decide +kernel
theorem dX10_pass_14 : decode cX10_pass 14 = .ok (.aload_n 0, 1) := by decide +kernel
theorem dX10_pass_15 : decode cX10_pass 15 = .ok (.aload_n 0, 1) := by decide +kernel
theorem dX10_pass_16 : decode cX10_pass 16 = .ok (.invokevirtual 191, 3) := by decide +kernel
theorem dX10_pass_19 : decode cX10_pass 19 = .ok (.ifCond .eq 18, 3) := by decide +kernel
theorem dX10_pass_22 : decode cX10_pass 22 = .ok (.aload_n 0, 1) := by decide +kernel
theorem dX10_pass_23 : decode cX10_pass 23 = .ok (.getfield 7, 3) := by decide +kernel
theorem dX10_pass_26 : decode cX10_pass 26 = .ok (.bipush 10, 2) := by decide +kernel
theorem dX10_pass_28 : decode cX10_pass 28 = .ok (.iaload, 1) := by decide +kernel
theorem dX10_pass_29 : decode cX10_pass 29 = .ok (.iload_n 1, 1) := by decide +kernel
theorem dX10_pass_30 : decode cX10_pass 30 = .ok (.iadd, 1) := by decide +kernel
theorem dX10_pass_31 : decode cX10_pass 31 = .ok (.sipush 500, 3) := by decide +kernel
theorem dX10_pass_34 : decode cX10_pass 34 = .ok (.if_icmp .le 7, 3) := by decide +kernel
theorem dX10_pass_37 : decode cX10_pass 37 = .ok (.iconst 1, 1) := by decide +kernel
theorem dX10_pass_38 : decode cX10_pass 38 = .ok (.goto 4, 3) := by decide +kernel
theorem dX10_pass_41 : decode cX10_pass 41 = .ok (.iconst 0, 1) := by decide +kernel
theorem dX10_pass_42 : decode cX10_pass 42 = .ok (.iconst 2, 1) := by decide +kernel
theorem dX10_pass_43 : decode cX10_pass 43 = .ok (.invokevirtual 380, 3) := by decide +kernel
theorem dX10_pass_46 : decode cX10_pass 46 = .ok (.ifCond .eq 5, 3) := by decide +kernel
theorem dX10_pass_49 : decode cX10_pass 49 = .ok (.iconst 0, 1) := by decide +kernel
theorem dX10_pass_50 : decode cX10_pass 50 = .ok (.ireturn, 1) := by decide +kernel
theorem dX10_pass_51 : decode cX10_pass 51 = .ok (.aload_n 0, 1) := by decide +kernel
theorem dX10_pass_52 : decode cX10_pass 52 = .ok (.invokevirtual 457, 3) := by decide +kernel
theorem dX10_pass_55 : decode cX10_pass 55 = .ok (.iconst 0, 1) := by decide +kernel
theorem dX10_pass_56 : decode cX10_pass 56 = .ok (.istore_n 2, 1) := by decide +kernel
theorem dX10_pass_57 : decode cX10_pass 57 = .ok (.iload_n 2, 1) := by decide +kernel
theorem dX10_pass_58 : decode cX10_pass 58 = .ok (.iload_n 1, 1) := by decide +kernel
theorem dX10_pass_59 : decode cX10_pass 59 = .ok (.if_icmp .ge 13, 3) := by decide +kernel
theorem dX10_pass_62 : decode cX10_pass 62 = .ok (.aload_n 0, 1) := by decide +kernel
theorem dX10_pass_63 : decode cX10_pass 63 = .ok (.invokevirtual 460, 3) := by decide +kernel
theorem dX10_pass_66 : decode cX10_pass 66 = .ok (.iinc 2 1, 3) := by decide +kernel
theorem dX10_pass_69 : decode cX10_pass 69 = .ok (.goto (-12), 3) := by decide +kernel
theorem dX10_pass_72 : decode cX10_pass 72 = .ok (.aload_n 0, 1) := by decide +kernel
theorem dX10_pass_73 : decode cX10_pass 73 = .ok (.invokevirtual 396, 3) := by decide +kernel
theorem dX10_pass_76 : decode cX10_pass 76 = .ok (.ireturn, 1) := by decide +kernel
theorem dX10_isLayer_0 : decode cX10_isLayer 0 = .ok (.iload_n 0, 1) := by decide +kernel
theorem dX10_isLayer_1 : decode cX10_isLayer 1 = .ok (.i2l, 1) := by decide +kernel
theorem dX10_isLayer_2 : decode cX10_isLayer 2 = .ok (.lconst 0, 1) := by decide +kernel
theorem dX10_isLayer_3 : decode cX10_isLayer 3 = .ok (.ldc2_w 389, 3) := by decide +kernel
theorem dX10_isLayer_6 : decode cX10_isLayer 6 = .ok (.invokestatic 129, 3) := by decide +kernel
theorem dX10_isLayer_9 : decode cX10_isLayer 9 = .ok (.ifCond .eq 19, 3) := by decide +kernel
theorem dX10_isLayer_12 : decode cX10_isLayer 12 = .ok (.iload_n 1, 1) := by decide +kernel
theorem dX10_isLayer_13 : decode cX10_isLayer 13 = .ok (.i2l, 1) := by decide +kernel
theorem dX10_isLayer_14 : decode cX10_isLayer 14 = .ok (.lconst 1, 1) := by decide +kernel
theorem dX10_isLayer_15 : decode cX10_isLayer 15 = .ok (.ldc2_w 463, 3) := by decide +kernel
theorem dX10_isLayer_18 : decode cX10_isLayer 18 = .ok (.invokestatic 129, 3) := by decide +kernel
theorem dX10_isLayer_21 : decode cX10_isLayer 21 = .ok (.ifCond .eq 7, 3) := by decide +kernel
theorem dX10_isLayer_24 : decode cX10_isLayer 24 = .ok (.iconst 1, 1) := by decide +kernel
theorem dX10_isLayer_25 : decode cX10_isLayer 25 = .ok (.goto 4, 3) := by decide +kernel
theorem dX10_isLayer_28 : decode cX10_isLayer 28 = .ok (.iconst 0, 1) := by decide +kernel
theorem dX10_isLayer_29 : decode cX10_isLayer 29 = .ok (.ireturn, 1) := by decide +kernel
theorem dX10_addsLayer_0 : decode cX10_addsLayer 0 = .ok (.aload_n 0, 1) := by decide +kernel
theorem dX10_addsLayer_1 : decode cX10_addsLayer 1 = .ok (.getfield 7, 3) := by decide +kernel
theorem dX10_addsLayer_4 : decode cX10_addsLayer 4 = .ok (.iload_n 1, 1) := by decide +kernel
theorem dX10_addsLayer_5 : decode cX10_addsLayer 5 = .ok (.iconst 1, 1) := by decide +kernel
theorem dX10_addsLayer_6 : decode cX10_addsLayer 6 = .ok (.iadd, 1) := by decide +kernel
theorem dX10_addsLayer_7 : decode cX10_addsLayer 7 = .ok (.iconst 2, 1) := by decide +kernel
theorem dX10_addsLayer_8 : decode cX10_addsLayer 8 = .ok (.aload_n 0, 1) := by decide +kernel
theorem dX10_addsLayer_9 : decode cX10_addsLayer 9 = .ok (.getfield 7, 3) := by decide +kernel
theorem dX10_addsLayer_12 : decode cX10_addsLayer 12 = .ok (.iload_n 1, 1) := by decide +kernel
theorem dX10_addsLayer_13 : decode cX10_addsLayer 13 = .ok (.iaload, 1) := by decide +kernel
theorem dX10_addsLayer_14 : decode cX10_addsLayer 14 = .ok (.imul, 1) := by decide +kernel
theorem dX10_addsLayer_15 : decode cX10_addsLayer 15 = .ok (.iadd, 1) := by decide +kernel
theorem dX10_addsLayer_16 : decode cX10_addsLayer 16 = .ok (.iload_n 2, 1) := by decide +kernel
theorem dX10_addsLayer_17 : decode cX10_addsLayer 17 = .ok (.iastore, 1) := by decide +kernel
theorem dX10_addsLayer_18 : decode cX10_addsLayer 18 = .ok (.aload_n 0, 1) := by decide +kernel
theorem dX10_addsLayer_19 : decode cX10_addsLayer 19 = .ok (.getfield 7, 3) := by decide +kernel
theorem dX10_addsLayer_22 : decode cX10_addsLayer 22 = .ok (.iload_n 1, 1) := by decide +kernel
theorem dX10_addsLayer_23 : decode cX10_addsLayer 23 = .ok (.iconst 2, 1) := by decide +kernel
theorem dX10_addsLayer_24 : decode cX10_addsLayer 24 = .ok (.iadd, 1) := by decide +kernel
theorem dX10_addsLayer_25 : decode cX10_addsLayer 25 = .ok (.iconst 2, 1) := by decide +kernel
theorem dX10_addsLayer_26 : decode cX10_addsLayer 26 = .ok (.aload_n 0, 1) := by decide +kernel
theorem dX10_addsLayer_27 : decode cX10_addsLayer 27 = .ok (.getfield 7, 3) := by decide +kernel
theorem dX10_addsLayer_30 : decode cX10_addsLayer 30 = .ok (.iload_n 1, 1) := by decide +kernel
theorem dX10_addsLayer_31 : decode cX10_addsLayer 31 = .ok (.iaload, 1) := by decide +kernel
theorem dX10_addsLayer_32 : decode cX10_addsLayer 32 = .ok (.imul, 1) := by decide +kernel
theorem dX10_addsLayer_33 : decode cX10_addsLayer 33 = .ok (.iadd, 1) := by decide +kernel
theorem dX10_addsLayer_34 : decode cX10_addsLayer 34 = .ok (.iload_n 3, 1) := by decide +kernel
theorem dX10_addsLayer_35 : decode cX10_addsLayer 35 = .ok (.iastore, 1) := by decide +kernel
theorem dX10_addsLayer_36 : decode cX10_addsLayer 36 = .ok (.aload_n 0, 1) := by decide +kernel
theorem dX10_addsLayer_37 : decode cX10_addsLayer 37 = .ok (.getfield 7, 3) := by decide +kernel
theorem dX10_addsLayer_40 : decode cX10_addsLayer 40 = .ok (.iload_n 1, 1) := by decide +kernel
theorem dX10_addsLayer_41 : decode cX10_addsLayer 41 = .ok (.dup2, 1) := by decide +kernel
theorem dX10_addsLayer_42 : decode cX10_addsLayer 42 = .ok (.iaload, 1) := by decide +kernel
theorem dX10_addsLayer_43 : decode cX10_addsLayer 43 = .ok (.iconst 1, 1) := by decide +kernel
theorem dX10_addsLayer_44 : decode cX10_addsLayer 44 = .ok (.iadd, 1) := by decide +kernel
theorem dX10_addsLayer_45 : decode cX10_addsLayer 45 = .ok (.iastore, 1) := by decide +kernel
theorem dX10_addsLayer_46 : decode cX10_addsLayer 46 = .ok (.aload_n 0, 1) := by decide +kernel
theorem dX10_addsLayer_47 : decode cX10_addsLayer 47 = .ok (.getfield 7, 3) := by decide +kernel
theorem dX10_addsLayer_50 : decode cX10_addsLayer 50 = .ok (.iload_n 1, 1) := by decide +kernel
theorem dX10_addsLayer_51 : decode cX10_addsLayer 51 = .ok (.iaload, 1) := by decide +kernel
theorem dX10_addsLayer_52 : decode cX10_addsLayer 52 = .ok (.ireturn, 1) := by decide +kernel
theorem dX10_dropsCore_0 : decode cX10_dropsCore 0 = .ok (.aload_n 0, 1) := by decide +kernel
theorem dX10_dropsCore_1 : decode cX10_dropsCore 1 = .ok (.getfield 7, 3) := by decide +kernel
theorem dX10_dropsCore_4 : decode cX10_dropsCore 4 = .ok (.bipush 8, 2) := by decide +kernel
theorem dX10_dropsCore_6 : decode cX10_dropsCore 6 = .ok (.dup2, 1) := by decide +kernel
theorem dX10_dropsCore_7 : decode cX10_dropsCore 7 = .ok (.iaload, 1) := by decide +kernel
theorem dX10_dropsCore_8 : decode cX10_dropsCore 8 = .ok (.iconst 1, 1) := by decide +kernel
theorem dX10_dropsCore_9 : decode cX10_dropsCore 9 = .ok (.isub, 1) := by decide +kernel
theorem dX10_dropsCore_10 : decode cX10_dropsCore 10 = .ok (.iastore, 1) := by decide +kernel
theorem dX10_dropsCore_11 : decode cX10_dropsCore 11 = .ok (.bipush 25, 2) := by decide +kernel
theorem dX10_dropsCore_13 : decode cX10_dropsCore 13 = .ok (.bipush 10, 2) := by decide +kernel
theorem dX10_dropsCore_15 : decode cX10_dropsCore 15 = .ok (.iload_n 1, 1) := by decide +kernel
theorem dX10_dropsCore_16 : decode cX10_dropsCore 16 = .ok (.imul, 1) := by decide +kernel
theorem dX10_dropsCore_17 : decode cX10_dropsCore 17 = .ok (.iadd, 1) := by decide +kernel
theorem dX10_dropsCore_18 : decode cX10_dropsCore 18 = .ok (.istore_n 2, 1) := by decide +kernel
theorem dX10_dropsCore_19 : decode cX10_dropsCore 19 = .ok (.iload_n 2, 1) := by decide +kernel
theorem dX10_dropsCore_20 : decode cX10_dropsCore 20 = .ok (.bipush 25, 2) := by decide +kernel
theorem dX10_dropsCore_22 : decode cX10_dropsCore 22 = .ok (.bipush 10, 2) := by decide +kernel
theorem dX10_dropsCore_24 : decode cX10_dropsCore 24 = .ok (.aload_n 0, 1) := by decide +kernel
theorem dX10_dropsCore_25 : decode cX10_dropsCore 25 = .ok (.getfield 7, 3) := by decide +kernel
theorem dX10_dropsCore_28 : decode cX10_dropsCore 28 = .ok (.bipush 8, 2) := by decide +kernel
theorem dX10_dropsCore_30 : decode cX10_dropsCore 30 = .ok (.iaload, 1) := by decide +kernel
theorem dX10_dropsCore_31 : decode cX10_dropsCore 31 = .ok (.imul, 1) := by decide +kernel
theorem dX10_dropsCore_32 : decode cX10_dropsCore 32 = .ok (.iadd, 1) := by decide +kernel
theorem dX10_dropsCore_33 : decode cX10_dropsCore 33 = .ok (.if_icmp .ge 24, 3) := by decide +kernel
theorem dX10_dropsCore_36 : decode cX10_dropsCore 36 = .ok (.aload_n 0, 1) := by decide +kernel
theorem dX10_dropsCore_37 : decode cX10_dropsCore 37 = .ok (.getfield 7, 3) := by decide +kernel
theorem dX10_dropsCore_40 : decode cX10_dropsCore 40 = .ok (.iload_n 2, 1) := by decide +kernel
theorem dX10_dropsCore_41 : decode cX10_dropsCore 41 = .ok (.aload_n 0, 1) := by decide +kernel
theorem dX10_dropsCore_42 : decode cX10_dropsCore 42 = .ok (.getfield 7, 3) := by decide +kernel
theorem dX10_dropsCore_45 : decode cX10_dropsCore 45 = .ok (.iload_n 2, 1) := by decide +kernel
theorem dX10_dropsCore_46 : decode cX10_dropsCore 46 = .ok (.bipush 10, 2) := by decide +kernel
theorem dX10_dropsCore_48 : decode cX10_dropsCore 48 = .ok (.iadd, 1) := by decide +kernel
theorem dX10_dropsCore_49 : decode cX10_dropsCore 49 = .ok (.iaload, 1) := by decide +kernel
theorem dX10_dropsCore_50 : decode cX10_dropsCore 50 = .ok (.iastore, 1) := by decide +kernel
theorem dX10_dropsCore_51 : decode cX10_dropsCore 51 = .ok (.iinc 2 1, 3) := by decide +kernel
theorem dX10_dropsCore_54 : decode cX10_dropsCore 54 = .ok (.goto (-35), 3) := by decide +kernel
theorem dX10_dropsCore_57 : decode cX10_dropsCore 57 = .ok (.return_, 1) := by decide +kernel
theorem dX10_drill_0 : decode cX10_drill 0 = .ok (.aload_n 0, 1) := by decide +kernel
theorem dX10_drill_1 : decode cX10_drill 1 = .ok (.iload_n 1, 1) := by decide +kernel
theorem dX10_drill_2 : decode cX10_drill 2 = .ok (.invokevirtual 386, 3) := by decide +kernel
theorem dX10_drill_5 : decode cX10_drill 5 = .ok (.ifCond .ne 58, 3) := by decide +kernel
theorem dX10_drill_8 : decode cX10_drill 8 = .ok (.aload_n 0, 1) := by decide +kernel
theorem dX10_drill_9 : decode cX10_drill 9 = .ok (.iload_n 2, 1) := by decide +kernel
theorem dX10_drill_10 : decode cX10_drill 10 = .ok (.iload_n 3, 1) := by decide +kernel
theorem dX10_drill_11 : decode cX10_drill 11 = .ok (.invokestatic 465, 3) := by decide +kernel
theorem dX10_drill_14 : decode cX10_drill 14 = .ok (.ifCond .ne 7, 3) := by decide +kernel
theorem dX10_drill_17 : decode cX10_drill 17 = .ok (.iconst 1, 1) := by decide +kernel
theorem dX10_drill_18 : decode cX10_drill 18 = .ok (.goto 4, 3) := by decide +kernel
theorem dX10_drill_21 : decode cX10_drill 21 = .ok (.iconst 0, 1) := by decide +kernel
theorem dX10_drill_22 : decode cX10_drill 22 = .ok (.iconst 2, 1) := by decide +kernel
theorem dX10_drill_23 : decode cX10_drill 23 = .ok (.invokevirtual 380, 3) := by decide +kernel
theorem dX10_drill_26 : decode cX10_drill 26 = .ok (.ifCond .ne 37, 3) := by decide +kernel
theorem dX10_drill_29 : decode cX10_drill 29 = .ok (.aload_n 0, 1) := by decide +kernel
theorem dX10_drill_30 : decode cX10_drill 30 = .ok (.aload_n 0, 1) := by decide +kernel
theorem dX10_drill_31 : decode cX10_drill 31 = .ok (.iload_n 1, 1) := by decide +kernel
theorem dX10_drill_32 : decode cX10_drill 32 = .ok (.invokevirtual 309, 3) := by decide +kernel
theorem dX10_drill_35 : decode cX10_drill 35 = .ok (.iconst (-1), 1) := by decide +kernel
theorem dX10_drill_36 : decode cX10_drill 36 = .ok (.if_icmp .ne 15, 3) := by decide +kernel
theorem dX10_drill_39 : decode cX10_drill 39 = .ok (.aload_n 0, 1) := by decide +kernel
theorem dX10_drill_40 : decode cX10_drill 40 = .ok (.getfield 7, 3) := by decide +kernel
theorem dX10_drill_43 : decode cX10_drill 43 = .ok (.bipush 8, 2) := by decide +kernel
theorem dX10_drill_45 : decode cX10_drill 45 = .ok (.iaload, 1) := by decide +kernel
theorem dX10_drill_46 : decode cX10_drill 46 = .ok (.bipush 12, 2) := by decide +kernel
theorem dX10_drill_48 : decode cX10_drill 48 = .ok (.if_icmp .ne 7, 3) := by decide +kernel
theorem dX10_drill_51 : decode cX10_drill 51 = .ok (.iconst 1, 1) := by decide +kernel
theorem dX10_drill_52 : decode cX10_drill 52 = .ok (.goto 4, 3) := by decide +kernel
theorem dX10_drill_55 : decode cX10_drill 55 = .ok (.iconst 0, 1) := by decide +kernel
theorem dX10_drill_56 : decode cX10_drill 56 = .ok (.iconst 3, 1) := by decide +kernel
theorem dX10_drill_57 : decode cX10_drill 57 = .ok (.invokevirtual 380, 3) := by decide +kernel
theorem dX10_drill_60 : decode cX10_drill 60 = .ok (.ifCond .eq 5, 3) := by decide +kernel
theorem dX10_drill_63 : decode cX10_drill 63 = .ok (.iconst 0, 1) := by decide +kernel
theorem dX10_drill_64 : decode cX10_drill 64 = .ok (.ireturn, 1) := by decide +kernel
theorem dX10_drill_65 : decode cX10_drill 65 = .ok (.aload_n 0, 1) := by decide +kernel
theorem dX10_drill_66 : decode cX10_drill 66 = .ok (.invokevirtual 457, 3) := by decide +kernel
theorem dX10_drill_69 : decode cX10_drill 69 = .ok (.aload_n 0, 1) := by decide +kernel
theorem dX10_drill_70 : decode cX10_drill 70 = .ok (.iload_n 1, 1) := by decide +kernel
theorem dX10_drill_71 : decode cX10_drill 71 = .ok (.invokevirtual 312, 3) := by decide +kernel
theorem dX10_drill_74 : decode cX10_drill 74 = .ok (.istore 4, 2) := by decide +kernel
theorem dX10_drill_76 : decode cX10_drill 76 = .ok (.bipush 25, 2) := by decide +kernel
theorem dX10_drill_78 : decode cX10_drill 78 = .ok (.bipush 10, 2) := by decide +kernel
theorem dX10_drill_80 : decode cX10_drill 80 = .ok (.iload 4, 2) := by decide +kernel
theorem dX10_drill_82 : decode cX10_drill 82 = .ok (.imul, 1) := by decide +kernel
theorem dX10_drill_83 : decode cX10_drill 83 = .ok (.iadd, 1) := by decide +kernel
theorem dX10_drill_84 : decode cX10_drill 84 = .ok (.iconst 1, 1) := by decide +kernel
theorem dX10_drill_85 : decode cX10_drill 85 = .ok (.iadd, 1) := by decide +kernel
theorem dX10_drill_86 : decode cX10_drill 86 = .ok (.istore 5, 2) := by decide +kernel
theorem dX10_drill_88 : decode cX10_drill 88 = .ok (.aload_n 0, 1) := by decide +kernel
theorem dX10_drill_89 : decode cX10_drill 89 = .ok (.getfield 7, 3) := by decide +kernel
theorem dX10_drill_92 : decode cX10_drill 92 = .ok (.iload 5, 2) := by decide +kernel
theorem dX10_drill_94 : decode cX10_drill 94 = .ok (.iconst 0, 1) := by decide +kernel
theorem dX10_drill_95 : decode cX10_drill 95 = .ok (.iastore, 1) := by decide +kernel
theorem dX10_drill_96 : decode cX10_drill 96 = .ok (.aload_n 0, 1) := by decide +kernel
theorem dX10_drill_97 : decode cX10_drill 97 = .ok (.iload 5, 2) := by decide +kernel
theorem dX10_drill_99 : decode cX10_drill 99 = .ok (.iload_n 2, 1) := by decide +kernel
theorem dX10_drill_100 : decode cX10_drill 100 = .ok (.iload_n 3, 1) := by decide +kernel
theorem dX10_drill_101 : decode cX10_drill 101 = .ok (.invokevirtual 468, 3) := by decide +kernel
theorem dX10_drill_104 : decode cX10_drill 104 = .ok (.istore 6, 2) := by decide +kernel
theorem dX10_drill_106 : decode cX10_drill 106 = .ok (.iload 6, 2) := by decide +kernel
theorem dX10_drill_108 : decode cX10_drill 108 = .ok (.iconst 1, 1) := by decide +kernel
theorem dX10_drill_109 : decode cX10_drill 109 = .ok (.if_icmp .ne 8, 3) := by decide +kernel
theorem dX10_drill_112 : decode cX10_drill 112 = .ok (.iload 4, 2) := by decide +kernel
theorem dX10_drill_114 : decode cX10_drill 114 = .ok (.goto 4, 3) := by decide +kernel
theorem dX10_drill_117 : decode cX10_drill 117 = .ok (.iconst (-1), 1) := by decide +kernel
theorem dX10_drill_118 : decode cX10_drill 118 = .ok (.ireturn, 1) := by decide +kernel
theorem dX10_addLayer_0 : decode cX10_addLayer 0 = .ok (.aload_n 0, 1) := by decide +kernel
theorem dX10_addLayer_1 : decode cX10_addLayer 1 = .ok (.iload_n 1, 1) := by decide +kernel
theorem dX10_addLayer_2 : decode cX10_addLayer 2 = .ok (.invokevirtual 411, 3) := by decide +kernel
theorem dX10_addLayer_5 : decode cX10_addLayer 5 = .ok (.ifCond .ne 55, 3) := by decide +kernel
theorem dX10_addLayer_8 : decode cX10_addLayer 8 = .ok (.aload_n 0, 1) := by decide +kernel
theorem dX10_addLayer_9 : decode cX10_addLayer 9 = .ok (.iload_n 2, 1) := by decide +kernel
theorem dX10_addLayer_10 : decode cX10_addLayer 10 = .ok (.iload_n 3, 1) := by decide +kernel
theorem dX10_addLayer_11 : decode cX10_addLayer 11 = .ok (.invokestatic 465, 3) := by decide +kernel
theorem dX10_addLayer_14 : decode cX10_addLayer 14 = .ok (.ifCond .ne 7, 3) := by decide +kernel
theorem dX10_addLayer_17 : decode cX10_addLayer 17 = .ok (.iconst 1, 1) := by decide +kernel
theorem dX10_addLayer_18 : decode cX10_addLayer 18 = .ok (.goto 4, 3) := by decide +kernel
theorem dX10_addLayer_21 : decode cX10_addLayer 21 = .ok (.iconst 0, 1) := by decide +kernel
theorem dX10_addLayer_22 : decode cX10_addLayer 22 = .ok (.iconst 2, 1) := by decide +kernel
theorem dX10_addLayer_23 : decode cX10_addLayer 23 = .ok (.invokevirtual 380, 3) := by decide +kernel
theorem dX10_addLayer_26 : decode cX10_addLayer 26 = .ok (.ifCond .ne 34, 3) := by decide +kernel
theorem dX10_addLayer_29 : decode cX10_addLayer 29 = .ok (.aload_n 0, 1) := by decide +kernel
theorem dX10_addLayer_30 : decode cX10_addLayer 30 = .ok (.aload_n 0, 1) := by decide +kernel
theorem dX10_addLayer_31 : decode cX10_addLayer 31 = .ok (.getfield 7, 3) := by decide +kernel
theorem dX10_addLayer_34 : decode cX10_addLayer 34 = .ok (.bipush 25, 2) := by decide +kernel
theorem dX10_addLayer_36 : decode cX10_addLayer 36 = .ok (.bipush 10, 2) := by decide +kernel
theorem dX10_addLayer_38 : decode cX10_addLayer 38 = .ok (.iload_n 1, 1) := by decide +kernel
theorem dX10_addLayer_39 : decode cX10_addLayer 39 = .ok (.imul, 1) := by decide +kernel
theorem dX10_addLayer_40 : decode cX10_addLayer 40 = .ok (.iadd, 1) := by decide +kernel
theorem dX10_addLayer_41 : decode cX10_addLayer 41 = .ok (.iconst 1, 1) := by decide +kernel
theorem dX10_addLayer_42 : decode cX10_addLayer 42 = .ok (.iadd, 1) := by decide +kernel
theorem dX10_addLayer_43 : decode cX10_addLayer 43 = .ok (.iaload, 1) := by decide +kernel
theorem dX10_addLayer_44 : decode cX10_addLayer 44 = .ok (.iconst 4, 1) := by decide +kernel
theorem dX10_addLayer_45 : decode cX10_addLayer 45 = .ok (.if_icmp .ne 7, 3) := by decide +kernel
theorem dX10_addLayer_48 : decode cX10_addLayer 48 = .ok (.iconst 1, 1) := by decide +kernel
theorem dX10_addLayer_49 : decode cX10_addLayer 49 = .ok (.goto 4, 3) := by decide +kernel
theorem dX10_addLayer_52 : decode cX10_addLayer 52 = .ok (.iconst 0, 1) := by decide +kernel
theorem dX10_addLayer_53 : decode cX10_addLayer 53 = .ok (.iconst 3, 1) := by decide +kernel
theorem dX10_addLayer_54 : decode cX10_addLayer 54 = .ok (.invokevirtual 380, 3) := by decide +kernel
theorem dX10_addLayer_57 : decode cX10_addLayer 57 = .ok (.ifCond .eq 5, 3) := by decide +kernel
theorem dX10_addLayer_60 : decode cX10_addLayer 60 = .ok (.iconst 0, 1) := by decide +kernel
theorem dX10_addLayer_61 : decode cX10_addLayer 61 = .ok (.ireturn, 1) := by decide +kernel
theorem dX10_addLayer_62 : decode cX10_addLayer 62 = .ok (.aload_n 0, 1) := by decide +kernel
theorem dX10_addLayer_63 : decode cX10_addLayer 63 = .ok (.invokevirtual 457, 3) := by decide +kernel
theorem dX10_addLayer_66 : decode cX10_addLayer 66 = .ok (.aload_n 0, 1) := by decide +kernel
theorem dX10_addLayer_67 : decode cX10_addLayer 67 = .ok (.bipush 25, 2) := by decide +kernel
theorem dX10_addLayer_69 : decode cX10_addLayer 69 = .ok (.bipush 10, 2) := by decide +kernel
theorem dX10_addLayer_71 : decode cX10_addLayer 71 = .ok (.iload_n 1, 1) := by decide +kernel
theorem dX10_addLayer_72 : decode cX10_addLayer 72 = .ok (.imul, 1) := by decide +kernel
theorem dX10_addLayer_73 : decode cX10_addLayer 73 = .ok (.iadd, 1) := by decide +kernel
theorem dX10_addLayer_74 : decode cX10_addLayer 74 = .ok (.iconst 1, 1) := by decide +kernel
theorem dX10_addLayer_75 : decode cX10_addLayer 75 = .ok (.iadd, 1) := by decide +kernel
theorem dX10_addLayer_76 : decode cX10_addLayer 76 = .ok (.iload_n 2, 1) := by decide +kernel
theorem dX10_addLayer_77 : decode cX10_addLayer 77 = .ok (.iload_n 3, 1) := by decide +kernel
theorem dX10_addLayer_78 : decode cX10_addLayer 78 = .ok (.invokevirtual 468, 3) := by decide +kernel
theorem dX10_addLayer_81 : decode cX10_addLayer 81 = .ok (.ireturn, 1) := by decide +kernel
theorem dX10_discard_0 : decode cX10_discard 0 = .ok (.aload_n 0, 1) := by decide +kernel
theorem dX10_discard_1 : decode cX10_discard 1 = .ok (.iload_n 1, 1) := by decide +kernel
theorem dX10_discard_2 : decode cX10_discard 2 = .ok (.invokevirtual 411, 3) := by decide +kernel
theorem dX10_discard_5 : decode cX10_discard 5 = .ok (.ifCond .eq 5, 3) := by decide +kernel
theorem dX10_discard_8 : decode cX10_discard 8 = .ok (.iconst 0, 1) := by decide +kernel
theorem dX10_discard_9 : decode cX10_discard 9 = .ok (.ireturn, 1) := by decide +kernel
theorem dX10_discard_10 : decode cX10_discard 10 = .ok (.aload_n 0, 1) := by decide +kernel
theorem dX10_discard_11 : decode cX10_discard 11 = .ok (.invokevirtual 457, 3) := by decide +kernel
theorem dX10_discard_14 : decode cX10_discard 14 = .ok (.aload_n 0, 1) := by decide +kernel
theorem dX10_discard_15 : decode cX10_discard 15 = .ok (.iload_n 1, 1) := by decide +kernel
theorem dX10_discard_16 : decode cX10_discard 16 = .ok (.invokevirtual 445, 3) := by decide +kernel
theorem dX10_discard_19 : decode cX10_discard 19 = .ok (.aload_n 0, 1) := by decide +kernel
theorem dX10_discard_20 : decode cX10_discard 20 = .ok (.getfield 7, 3) := by decide +kernel
theorem dX10_discard_23 : decode cX10_discard 23 = .ok (.bipush 8, 2) := by decide +kernel
theorem dX10_discard_25 : decode cX10_discard 25 = .ok (.iaload, 1) := by decide +kernel
theorem dX10_discard_26 : decode cX10_discard 26 = .ok (.ireturn, 1) := by decide +kernel
theorem dX10_measure_0 : decode cX10_measure 0 = .ok (.aload_n 0, 1) := by decide +kernel
theorem dX10_measure_1 : decode cX10_measure 1 = .ok (.iload_n 1, 1) := by decide +kernel
theorem dX10_measure_2 : decode cX10_measure 2 = .ok (.invokevirtual 386, 3) := by decide +kernel
theorem dX10_measure_5 : decode cX10_measure 5 = .ok (.ifCond .ne 28, 3) := by decide +kernel
theorem dX10_measure_8 : decode cX10_measure 8 = .ok (.aload_n 0, 1) := by decide +kernel
theorem dX10_measure_9 : decode cX10_measure 9 = .ok (.iload_n 2, 1) := by decide +kernel
theorem dX10_measure_10 : decode cX10_measure 10 = .ok (.i2l, 1) := by decide +kernel
theorem dX10_measure_11 : decode cX10_measure 11 = .ok (.lconst 0, 1) := by decide +kernel
theorem dX10_measure_12 : decode cX10_measure 12 = .ok (.ldc2_w 145, 3) := by decide +kernel
theorem dX10_measure_15 : decode cX10_measure 15 = .ok (.invokestatic 129, 3) := by decide +kernel
theorem dX10_measure_18 : decode cX10_measure 18 = .ok (.ifCond .ne 7, 3) := by decide +kernel
theorem dX10_measure_21 : decode cX10_measure 21 = .ok (.iconst 1, 1) := by decide +kernel
theorem dX10_measure_22 : decode cX10_measure 22 = .ok (.goto 4, 3) := by decide +kernel
theorem dX10_measure_25 : decode cX10_measure 25 = .ok (.iconst 0, 1) := by decide +kernel
theorem dX10_measure_26 : decode cX10_measure 26 = .ok (.iconst 2, 1) := by decide +kernel
theorem dX10_measure_27 : decode cX10_measure 27 = .ok (.invokevirtual 380, 3) := by decide +kernel
theorem dX10_measure_30 : decode cX10_measure 30 = .ok (.ifCond .eq 5, 3) := by decide +kernel
theorem dX10_measure_33 : decode cX10_measure 33 = .ok (.iconst 0, 1) := by decide +kernel
theorem dX10_measure_34 : decode cX10_measure 34 = .ok (.ireturn, 1) := by decide +kernel
theorem dX10_measure_35 : decode cX10_measure 35 = .ok (.aload_n 0, 1) := by decide +kernel
theorem dX10_measure_36 : decode cX10_measure 36 = .ok (.invokevirtual 457, 3) := by decide +kernel
theorem dX10_measure_39 : decode cX10_measure 39 = .ok (.aload_n 0, 1) := by decide +kernel
theorem dX10_measure_40 : decode cX10_measure 40 = .ok (.iload_n 1, 1) := by decide +kernel
theorem dX10_measure_41 : decode cX10_measure 41 = .ok (.iconst 0, 1) := by decide +kernel
theorem dX10_measure_42 : decode cX10_measure 42 = .ok (.invokevirtual 87, 3) := by decide +kernel
theorem dX10_measure_45 : decode cX10_measure 45 = .ok (.istore_n 3, 1) := by decide +kernel
theorem dX10_measure_46 : decode cX10_measure 46 = .ok (.aload_n 0, 1) := by decide +kernel
theorem dX10_measure_47 : decode cX10_measure 47 = .ok (.iload_n 1, 1) := by decide +kernel
theorem dX10_measure_48 : decode cX10_measure 48 = .ok (.iconst 0, 1) := by decide +kernel
theorem dX10_measure_49 : decode cX10_measure 49 = .ok (.iload_n 2, 1) := by decide +kernel
theorem dX10_measure_50 : decode cX10_measure 50 = .ok (.invokevirtual 195, 3) := by decide +kernel
theorem dX10_measure_53 : decode cX10_measure 53 = .ok (.iload_n 3, 1) := by decide +kernel
theorem dX10_measure_54 : decode cX10_measure 54 = .ok (.ireturn, 1) := by decide +kernel
theorem dX10_noStation_0 : decode cX10_noStation 0 = .ok (.aload_n 0, 1) := by decide +kernel
theorem dX10_noStation_1 : decode cX10_noStation 1 = .ok (.iload_n 1, 1) := by decide +kernel
theorem dX10_noStation_2 : decode cX10_noStation 2 = .ok (.i2l, 1) := by decide +kernel
theorem dX10_noStation_3 : decode cX10_noStation 3 = .ok (.lconst 0, 1) := by decide +kernel
theorem dX10_noStation_4 : decode cX10_noStation 4 = .ok (.aload_n 0, 1) := by decide +kernel
theorem dX10_noStation_5 : decode cX10_noStation 5 = .ok (.getfield 7, 3) := by decide +kernel
theorem dX10_noStation_8 : decode cX10_noStation 8 = .ok (.bipush 6, 2) := by decide +kernel
theorem dX10_noStation_10 : decode cX10_noStation 10 = .ok (.iaload, 1) := by decide +kernel
theorem dX10_noStation_11 : decode cX10_noStation 11 = .ok (.iconst 1, 1) := by decide +kernel
theorem dX10_noStation_12 : decode cX10_noStation 12 = .ok (.isub, 1) := by decide +kernel
theorem dX10_noStation_13 : decode cX10_noStation 13 = .ok (.i2l, 1) := by decide +kernel
theorem dX10_noStation_14 : decode cX10_noStation 14 = .ok (.invokestatic 129, 3) := by decide +kernel
theorem dX10_noStation_17 : decode cX10_noStation 17 = .ok (.ifCond .ne 7, 3) := by decide +kernel
theorem dX10_noStation_20 : decode cX10_noStation 20 = .ok (.iconst 1, 1) := by decide +kernel
theorem dX10_noStation_21 : decode cX10_noStation 21 = .ok (.goto 4, 3) := by decide +kernel
theorem dX10_noStation_24 : decode cX10_noStation 24 = .ok (.iconst 0, 1) := by decide +kernel
theorem dX10_noStation_25 : decode cX10_noStation 25 = .ok (.iconst 1, 1) := by decide +kernel
theorem dX10_noStation_26 : decode cX10_noStation 26 = .ok (.invokevirtual 380, 3) := by decide +kernel
theorem dX10_noStation_29 : decode cX10_noStation 29 = .ok (.ireturn, 1) := by decide +kernel
theorem dX10_addLoad_0 : decode cX10_addLoad 0 = .ok (.aload_n 0, 1) := by decide +kernel
theorem dX10_addLoad_1 : decode cX10_addLoad 1 = .ok (.iload_n 1, 1) := by decide +kernel
theorem dX10_addLoad_2 : decode cX10_addLoad 2 = .ok (.invokevirtual 427, 3) := by decide +kernel
theorem dX10_addLoad_5 : decode cX10_addLoad 5 = .ok (.ifCond .ne 19, 3) := by decide +kernel
theorem dX10_addLoad_8 : decode cX10_addLoad 8 = .ok (.aload_n 0, 1) := by decide +kernel
theorem dX10_addLoad_9 : decode cX10_addLoad 9 = .ok (.iload_n 2, 1) := by decide +kernel
theorem dX10_addLoad_10 : decode cX10_addLoad 10 = .ok (.invokevirtual 471, 3) := by decide +kernel
theorem dX10_addLoad_13 : decode cX10_addLoad 13 = .ok (.ifCond .ne 11, 3) := by decide +kernel
theorem dX10_addLoad_16 : decode cX10_addLoad 16 = .ok (.aload_n 0, 1) := by decide +kernel
theorem dX10_addLoad_17 : decode cX10_addLoad 17 = .ok (.iload_n 3, 1) := by decide +kernel
theorem dX10_addLoad_18 : decode cX10_addLoad 18 = .ok (.invokevirtual 471, 3) := by decide +kernel
theorem dX10_addLoad_21 : decode cX10_addLoad 21 = .ok (.ifCond .eq 5, 3) := by decide +kernel
theorem dX10_addLoad_24 : decode cX10_addLoad 24 = .ok (.iconst 0, 1) := by decide +kernel
theorem dX10_addLoad_25 : decode cX10_addLoad 25 = .ok (.ireturn, 1) := by decide +kernel
theorem dX10_addLoad_26 : decode cX10_addLoad 26 = .ok (.aload_n 0, 1) := by decide +kernel
theorem dX10_addLoad_27 : decode cX10_addLoad 27 = .ok (.iload_n 3, 1) := by decide +kernel
theorem dX10_addLoad_28 : decode cX10_addLoad 28 = .ok (.iload_n 2, 1) := by decide +kernel
theorem dX10_addLoad_29 : decode cX10_addLoad 29 = .ok (.if_icmp .lt 42, 3) := by decide +kernel
theorem dX10_addLoad_32 : decode cX10_addLoad 32 = .ok (.iload 4, 2) := by decide +kernel
theorem dX10_addLoad_34 : decode cX10_addLoad 34 = .ok (.i2l, 1) := by decide +kernel
theorem dX10_addLoad_35 : decode cX10_addLoad 35 = .ok (.lconst 1, 1) := by decide +kernel
theorem dX10_addLoad_36 : decode cX10_addLoad 36 = .ok (.ldc2_w 474, 3) := by decide +kernel
theorem dX10_addLoad_39 : decode cX10_addLoad 39 = .ok (.invokestatic 129, 3) := by decide +kernel
theorem dX10_addLoad_42 : decode cX10_addLoad 42 = .ok (.ifCond .eq 29, 3) := by decide +kernel
theorem dX10_addLoad_45 : decode cX10_addLoad 45 = .ok (.iload 5, 2) := by decide +kernel
theorem dX10_addLoad_47 : decode cX10_addLoad 47 = .ok (.i2l, 1) := by decide +kernel
theorem dX10_addLoad_48 : decode cX10_addLoad 48 = .ok (.lconst 0, 1) := by decide +kernel
theorem dX10_addLoad_49 : decode cX10_addLoad 49 = .ok (.ldc2_w 115, 3) := by decide +kernel
theorem dX10_addLoad_52 : decode cX10_addLoad 52 = .ok (.invokestatic 129, 3) := by decide +kernel
theorem dX10_addLoad_55 : decode cX10_addLoad 55 = .ok (.ifCond .eq 16, 3) := by decide +kernel
theorem dX10_addLoad_58 : decode cX10_addLoad 58 = .ok (.iload 6, 2) := by decide +kernel
theorem dX10_addLoad_60 : decode cX10_addLoad 60 = .ok (.i2l, 1) := by decide +kernel
theorem dX10_addLoad_61 : decode cX10_addLoad 61 = .ok (.lconst 0, 1) := by decide +kernel
theorem dX10_addLoad_62 : decode cX10_addLoad 62 = .ok (.ldc2_w 476, 3) := by decide +kernel
theorem dX10_addLoad_65 : decode cX10_addLoad 65 = .ok (.invokestatic 129, 3) := by decide +kernel
theorem dX10_addLoad_68 : decode cX10_addLoad 68 = .ok (.ifCond .ne 7, 3) := by decide +kernel
theorem dX10_addLoad_71 : decode cX10_addLoad 71 = .ok (.iconst 1, 1) := by decide +kernel
theorem dX10_addLoad_72 : decode cX10_addLoad 72 = .ok (.goto 4, 3) := by decide +kernel
theorem dX10_addLoad_75 : decode cX10_addLoad 75 = .ok (.iconst 0, 1) := by decide +kernel
theorem dX10_addLoad_76 : decode cX10_addLoad 76 = .ok (.iconst 2, 1) := by decide +kernel
theorem dX10_addLoad_77 : decode cX10_addLoad 77 = .ok (.invokevirtual 380, 3) := by decide +kernel
theorem dX10_addLoad_80 : decode cX10_addLoad 80 = .ok (.ifCond .ne 28, 3) := by decide +kernel
theorem dX10_addLoad_83 : decode cX10_addLoad 83 = .ok (.aload_n 0, 1) := by decide +kernel
theorem dX10_addLoad_84 : decode cX10_addLoad 84 = .ok (.aload_n 0, 1) := by decide +kernel
theorem dX10_addLoad_85 : decode cX10_addLoad 85 = .ok (.getfield 7, 3) := by decide +kernel
theorem dX10_addLoad_88 : decode cX10_addLoad 88 = .ok (.bipush 9, 2) := by decide +kernel
theorem dX10_addLoad_90 : decode cX10_addLoad 90 = .ok (.iaload, 1) := by decide +kernel
theorem dX10_addLoad_91 : decode cX10_addLoad 91 = .ok (.bipush 10, 2) := by decide +kernel
theorem dX10_addLoad_93 : decode cX10_addLoad 93 = .ok (.if_icmp .ne 7, 3) := by decide +kernel
theorem dX10_addLoad_96 : decode cX10_addLoad 96 = .ok (.iconst 1, 1) := by decide +kernel
theorem dX10_addLoad_97 : decode cX10_addLoad 97 = .ok (.goto 4, 3) := by decide +kernel
theorem dX10_addLoad_100 : decode cX10_addLoad 100 = .ok (.iconst 0, 1) := by decide +kernel
theorem dX10_addLoad_101 : decode cX10_addLoad 101 = .ok (.iconst 3, 1) := by decide +kernel
theorem dX10_addLoad_102 : decode cX10_addLoad 102 = .ok (.invokevirtual 380, 3) := by decide +kernel
theorem dX10_addLoad_105 : decode cX10_addLoad 105 = .ok (.ifCond .eq 5, 3) := by decide +kernel
theorem dX10_addLoad_108 : decode cX10_addLoad 108 = .ok (.iconst 0, 1) := by decide +kernel
theorem dX10_addLoad_109 : decode cX10_addLoad 109 = .ok (.ireturn, 1) := by decide +kernel
theorem dX10_addLoad_110 : decode cX10_addLoad 110 = .ok (.aload_n 0, 1) := by decide +kernel
theorem dX10_addLoad_111 : decode cX10_addLoad 111 = .ok (.invokevirtual 457, 3) := by decide +kernel
theorem dX10_addLoad_114 : decode cX10_addLoad 114 = .ok (.sipush 145, 3) := by decide +kernel
theorem dX10_addLoad_117 : decode cX10_addLoad 117 = .ok (.bipush 6, 2) := by decide +kernel
theorem dX10_addLoad_119 : decode cX10_addLoad 119 = .ok (.aload_n 0, 1) := by decide +kernel
theorem dX10_addLoad_120 : decode cX10_addLoad 120 = .ok (.getfield 7, 3) := by decide +kernel
theorem dX10_addLoad_123 : decode cX10_addLoad 123 = .ok (.bipush 9, 2) := by decide +kernel
theorem dX10_addLoad_125 : decode cX10_addLoad 125 = .ok (.iaload, 1) := by decide +kernel
theorem dX10_addLoad_126 : decode cX10_addLoad 126 = .ok (.imul, 1) := by decide +kernel
theorem dX10_addLoad_127 : decode cX10_addLoad 127 = .ok (.iadd, 1) := by decide +kernel
theorem dX10_addLoad_128 : decode cX10_addLoad 128 = .ok (.istore 7, 2) := by decide +kernel
theorem dX10_addLoad_130 : decode cX10_addLoad 130 = .ok (.aload_n 0, 1) := by decide +kernel
theorem dX10_addLoad_131 : decode cX10_addLoad 131 = .ok (.getfield 7, 3) := by decide +kernel
theorem dX10_addLoad_134 : decode cX10_addLoad 134 = .ok (.iload 7, 2) := by decide +kernel
theorem dX10_addLoad_136 : decode cX10_addLoad 136 = .ok (.iconst 0, 1) := by decide +kernel
theorem dX10_addLoad_137 : decode cX10_addLoad 137 = .ok (.iadd, 1) := by decide +kernel
theorem dX10_addLoad_138 : decode cX10_addLoad 138 = .ok (.iload_n 1, 1) := by decide +kernel
theorem dX10_addLoad_139 : decode cX10_addLoad 139 = .ok (.iastore, 1) := by decide +kernel
theorem dX10_addLoad_140 : decode cX10_addLoad 140 = .ok (.aload_n 0, 1) := by decide +kernel
theorem dX10_addLoad_141 : decode cX10_addLoad 141 = .ok (.getfield 7, 3) := by decide +kernel
theorem dX10_addLoad_144 : decode cX10_addLoad 144 = .ok (.iload 7, 2) := by decide +kernel
theorem dX10_addLoad_146 : decode cX10_addLoad 146 = .ok (.iconst 1, 1) := by decide +kernel
theorem dX10_addLoad_147 : decode cX10_addLoad 147 = .ok (.iadd, 1) := by decide +kernel
theorem dX10_addLoad_148 : decode cX10_addLoad 148 = .ok (.iload_n 2, 1) := by decide +kernel
theorem dX10_addLoad_149 : decode cX10_addLoad 149 = .ok (.iastore, 1) := by decide +kernel
theorem dX10_addLoad_150 : decode cX10_addLoad 150 = .ok (.aload_n 0, 1) := by decide +kernel
theorem dX10_addLoad_151 : decode cX10_addLoad 151 = .ok (.getfield 7, 3) := by decide +kernel
theorem dX10_addLoad_154 : decode cX10_addLoad 154 = .ok (.iload 7, 2) := by decide +kernel
theorem dX10_addLoad_156 : decode cX10_addLoad 156 = .ok (.iconst 2, 1) := by decide +kernel
theorem dX10_addLoad_157 : decode cX10_addLoad 157 = .ok (.iadd, 1) := by decide +kernel
theorem dX10_addLoad_158 : decode cX10_addLoad 158 = .ok (.iload_n 3, 1) := by decide +kernel
theorem dX10_addLoad_159 : decode cX10_addLoad 159 = .ok (.iastore, 1) := by decide +kernel
theorem dX10_addLoad_160 : decode cX10_addLoad 160 = .ok (.aload_n 0, 1) := by decide +kernel
theorem dX10_addLoad_161 : decode cX10_addLoad 161 = .ok (.getfield 7, 3) := by decide +kernel
theorem dX10_addLoad_164 : decode cX10_addLoad 164 = .ok (.iload 7, 2) := by decide +kernel
theorem dX10_addLoad_166 : decode cX10_addLoad 166 = .ok (.iconst 3, 1) := by decide +kernel
theorem dX10_addLoad_167 : decode cX10_addLoad 167 = .ok (.iadd, 1) := by decide +kernel
theorem dX10_addLoad_168 : decode cX10_addLoad 168 = .ok (.iload 4, 2) := by decide +kernel
theorem dX10_addLoad_170 : decode cX10_addLoad 170 = .ok (.iastore, 1) := by decide +kernel
theorem dX10_addLoad_171 : decode cX10_addLoad 171 = .ok (.aload_n 0, 1) := by decide +kernel
theorem dX10_addLoad_172 : decode cX10_addLoad 172 = .ok (.getfield 7, 3) := by decide +kernel
theorem dX10_addLoad_175 : decode cX10_addLoad 175 = .ok (.iload 7, 2) := by decide +kernel
theorem dX10_addLoad_177 : decode cX10_addLoad 177 = .ok (.iconst 4, 1) := by decide +kernel
theorem dX10_addLoad_178 : decode cX10_addLoad 178 = .ok (.iadd, 1) := by decide +kernel
theorem dX10_addLoad_179 : decode cX10_addLoad 179 = .ok (.iload 5, 2) := by decide +kernel
theorem dX10_addLoad_181 : decode cX10_addLoad 181 = .ok (.iastore, 1) := by decide +kernel
theorem dX10_addLoad_182 : decode cX10_addLoad 182 = .ok (.aload_n 0, 1) := by decide +kernel
theorem dX10_addLoad_183 : decode cX10_addLoad 183 = .ok (.getfield 7, 3) := by decide +kernel
theorem dX10_addLoad_186 : decode cX10_addLoad 186 = .ok (.iload 7, 2) := by decide +kernel
theorem dX10_addLoad_188 : decode cX10_addLoad 188 = .ok (.iconst 5, 1) := by decide +kernel
theorem dX10_addLoad_189 : decode cX10_addLoad 189 = .ok (.iadd, 1) := by decide +kernel
theorem dX10_addLoad_190 : decode cX10_addLoad 190 = .ok (.iload 6, 2) := by decide +kernel
theorem dX10_addLoad_192 : decode cX10_addLoad 192 = .ok (.iastore, 1) := by decide +kernel
theorem dX10_addLoad_193 : decode cX10_addLoad 193 = .ok (.aload_n 0, 1) := by decide +kernel
theorem dX10_addLoad_194 : decode cX10_addLoad 194 = .ok (.getfield 7, 3) := by decide +kernel
theorem dX10_addLoad_197 : decode cX10_addLoad 197 = .ok (.bipush 9, 2) := by decide +kernel
theorem dX10_addLoad_199 : decode cX10_addLoad 199 = .ok (.dup2, 1) := by decide +kernel
theorem dX10_addLoad_200 : decode cX10_addLoad 200 = .ok (.iaload, 1) := by decide +kernel
theorem dX10_addLoad_201 : decode cX10_addLoad 201 = .ok (.iconst 1, 1) := by decide +kernel
theorem dX10_addLoad_202 : decode cX10_addLoad 202 = .ok (.iadd, 1) := by decide +kernel
theorem dX10_addLoad_203 : decode cX10_addLoad 203 = .ok (.iastore, 1) := by decide +kernel
theorem dX10_addLoad_204 : decode cX10_addLoad 204 = .ok (.aload_n 0, 1) := by decide +kernel
theorem dX10_addLoad_205 : decode cX10_addLoad 205 = .ok (.getfield 7, 3) := by decide +kernel
theorem dX10_addLoad_208 : decode cX10_addLoad 208 = .ok (.bipush 9, 2) := by decide +kernel
theorem dX10_addLoad_210 : decode cX10_addLoad 210 = .ok (.iaload, 1) := by decide +kernel
theorem dX10_addLoad_211 : decode cX10_addLoad 211 = .ok (.iconst 1, 1) := by decide +kernel
theorem dX10_addLoad_212 : decode cX10_addLoad 212 = .ok (.isub, 1) := by decide +kernel
theorem dX10_addLoad_213 : decode cX10_addLoad 213 = .ok (.ireturn, 1) := by decide +kernel
theorem dX10_removeLoad_0 : decode cX10_removeLoad 0 = .ok (.aload_n 0, 1) := by decide +kernel
theorem dX10_removeLoad_1 : decode cX10_removeLoad 1 = .ok (.iload_n 1, 1) := by decide +kernel
theorem dX10_removeLoad_2 : decode cX10_removeLoad 2 = .ok (.invokevirtual 419, 3) := by decide +kernel
theorem dX10_removeLoad_5 : decode cX10_removeLoad 5 = .ok (.ifCond .eq 5, 3) := by decide +kernel
theorem dX10_removeLoad_8 : decode cX10_removeLoad 8 = .ok (.iconst 0, 1) := by decide +kernel
theorem dX10_removeLoad_9 : decode cX10_removeLoad 9 = .ok (.ireturn, 1) := by decide +kernel
theorem dX10_removeLoad_10 : decode cX10_removeLoad 10 = .ok (.aload_n 0, 1) := by decide +kernel
theorem dX10_removeLoad_11 : decode cX10_removeLoad 11 = .ok (.invokevirtual 457, 3) := by decide +kernel
theorem dX10_removeLoad_14 : decode cX10_removeLoad 14 = .ok (.aload_n 0, 1) := by decide +kernel
theorem dX10_removeLoad_15 : decode cX10_removeLoad 15 = .ok (.getfield 7, 3) := by decide +kernel
theorem dX10_removeLoad_18 : decode cX10_removeLoad 18 = .ok (.bipush 9, 2) := by decide +kernel
theorem dX10_removeLoad_20 : decode cX10_removeLoad 20 = .ok (.dup2, 1) := by decide +kernel
theorem dX10_removeLoad_21 : decode cX10_removeLoad 21 = .ok (.iaload, 1) := by decide +kernel
theorem dX10_removeLoad_22 : decode cX10_removeLoad 22 = .ok (.iconst 1, 1) := by decide +kernel
theorem dX10_removeLoad_23 : decode cX10_removeLoad 23 = .ok (.isub, 1) := by decide +kernel
theorem dX10_removeLoad_24 : decode cX10_removeLoad 24 = .ok (.iastore, 1) := by decide +kernel
theorem dX10_removeLoad_25 : decode cX10_removeLoad 25 = .ok (.sipush 145, 3) := by decide +kernel
theorem dX10_removeLoad_28 : decode cX10_removeLoad 28 = .ok (.bipush 6, 2) := by decide +kernel
theorem dX10_removeLoad_30 : decode cX10_removeLoad 30 = .ok (.iload_n 1, 1) := by decide +kernel
theorem dX10_removeLoad_31 : decode cX10_removeLoad 31 = .ok (.imul, 1) := by decide +kernel
theorem dX10_removeLoad_32 : decode cX10_removeLoad 32 = .ok (.iadd, 1) := by decide +kernel
theorem dX10_removeLoad_33 : decode cX10_removeLoad 33 = .ok (.istore_n 2, 1) := by decide +kernel
theorem dX10_removeLoad_34 : decode cX10_removeLoad 34 = .ok (.iload_n 2, 1) := by decide +kernel
theorem dX10_removeLoad_35 : decode cX10_removeLoad 35 = .ok (.sipush 145, 3) := by decide +kernel
theorem dX10_removeLoad_38 : decode cX10_removeLoad 38 = .ok (.bipush 6, 2) := by decide +kernel
theorem dX10_removeLoad_40 : decode cX10_removeLoad 40 = .ok (.aload_n 0, 1) := by decide +kernel
theorem dX10_removeLoad_41 : decode cX10_removeLoad 41 = .ok (.getfield 7, 3) := by decide +kernel
theorem dX10_removeLoad_44 : decode cX10_removeLoad 44 = .ok (.bipush 9, 2) := by decide +kernel
theorem dX10_removeLoad_46 : decode cX10_removeLoad 46 = .ok (.iaload, 1) := by decide +kernel
theorem dX10_removeLoad_47 : decode cX10_removeLoad 47 = .ok (.imul, 1) := by decide +kernel
theorem dX10_removeLoad_48 : decode cX10_removeLoad 48 = .ok (.iadd, 1) := by decide +kernel
theorem dX10_removeLoad_49 : decode cX10_removeLoad 49 = .ok (.if_icmp .ge 24, 3) := by decide +kernel
theorem dX10_removeLoad_52 : decode cX10_removeLoad 52 = .ok (.aload_n 0, 1) := by decide +kernel
theorem dX10_removeLoad_53 : decode cX10_removeLoad 53 = .ok (.getfield 7, 3) := by decide +kernel
theorem dX10_removeLoad_56 : decode cX10_removeLoad 56 = .ok (.iload_n 2, 1) := by decide +kernel
theorem dX10_removeLoad_57 : decode cX10_removeLoad 57 = .ok (.aload_n 0, 1) := by decide +kernel
theorem dX10_removeLoad_58 : decode cX10_removeLoad 58 = .ok (.getfield 7, 3) := by decide +kernel
theorem dX10_removeLoad_61 : decode cX10_removeLoad 61 = .ok (.iload_n 2, 1) := by decide +kernel
theorem dX10_removeLoad_62 : decode cX10_removeLoad 62 = .ok (.bipush 6, 2) := by decide +kernel
theorem dX10_removeLoad_64 : decode cX10_removeLoad 64 = .ok (.iadd, 1) := by decide +kernel
theorem dX10_removeLoad_65 : decode cX10_removeLoad 65 = .ok (.iaload, 1) := by decide +kernel
theorem dX10_removeLoad_66 : decode cX10_removeLoad 66 = .ok (.iastore, 1) := by decide +kernel
theorem dX10_removeLoad_67 : decode cX10_removeLoad 67 = .ok (.iinc 2 1, 3) := by decide +kernel
theorem dX10_removeLoad_70 : decode cX10_removeLoad 70 = .ok (.goto (-36), 3) := by decide +kernel
theorem dX10_removeLoad_73 : decode cX10_removeLoad 73 = .ok (.aload_n 0, 1) := by decide +kernel
theorem dX10_removeLoad_74 : decode cX10_removeLoad 74 = .ok (.getfield 7, 3) := by decide +kernel
theorem dX10_removeLoad_77 : decode cX10_removeLoad 77 = .ok (.bipush 9, 2) := by decide +kernel
theorem dX10_removeLoad_79 : decode cX10_removeLoad 79 = .ok (.iaload, 1) := by decide +kernel
theorem dX10_removeLoad_80 : decode cX10_removeLoad 80 = .ok (.ireturn, 1) := by decide +kernel
theorem dX10_setCount_0 : decode cX10_setCount 0 = .ok (.aload_n 0, 1) := by decide +kernel
theorem dX10_setCount_1 : decode cX10_setCount 1 = .ok (.iload_n 1, 1) := by decide +kernel
theorem dX10_setCount_2 : decode cX10_setCount 2 = .ok (.invokevirtual 419, 3) := by decide +kernel
theorem dX10_setCount_5 : decode cX10_setCount 5 = .ok (.ifCond .ne 28, 3) := by decide +kernel
theorem dX10_setCount_8 : decode cX10_setCount 8 = .ok (.aload_n 0, 1) := by decide +kernel
theorem dX10_setCount_9 : decode cX10_setCount 9 = .ok (.iload_n 2, 1) := by decide +kernel
theorem dX10_setCount_10 : decode cX10_setCount 10 = .ok (.i2l, 1) := by decide +kernel
theorem dX10_setCount_11 : decode cX10_setCount 11 = .ok (.lconst 0, 1) := by decide +kernel
theorem dX10_setCount_12 : decode cX10_setCount 12 = .ok (.ldc2_w 115, 3) := by decide +kernel
theorem dX10_setCount_15 : decode cX10_setCount 15 = .ok (.invokestatic 129, 3) := by decide +kernel
theorem dX10_setCount_18 : decode cX10_setCount 18 = .ok (.ifCond .ne 7, 3) := by decide +kernel
theorem dX10_setCount_21 : decode cX10_setCount 21 = .ok (.iconst 1, 1) := by decide +kernel
theorem dX10_setCount_22 : decode cX10_setCount 22 = .ok (.goto 4, 3) := by decide +kernel
theorem dX10_setCount_25 : decode cX10_setCount 25 = .ok (.iconst 0, 1) := by decide +kernel
theorem dX10_setCount_26 : decode cX10_setCount 26 = .ok (.iconst 2, 1) := by decide +kernel
theorem dX10_setCount_27 : decode cX10_setCount 27 = .ok (.invokevirtual 380, 3) := by decide +kernel
theorem dX10_setCount_30 : decode cX10_setCount 30 = .ok (.ifCond .eq 5, 3) := by decide +kernel
theorem dX10_setCount_33 : decode cX10_setCount 33 = .ok (.iconst 0, 1) := by decide +kernel
theorem dX10_setCount_34 : decode cX10_setCount 34 = .ok (.ireturn, 1) := by decide +kernel
theorem dX10_setCount_35 : decode cX10_setCount 35 = .ok (.aload_n 0, 1) := by decide +kernel
theorem dX10_setCount_36 : decode cX10_setCount 36 = .ok (.invokevirtual 457, 3) := by decide +kernel
theorem dX10_setCount_39 : decode cX10_setCount 39 = .ok (.aload_n 0, 1) := by decide +kernel
theorem dX10_setCount_40 : decode cX10_setCount 40 = .ok (.iload_n 1, 1) := by decide +kernel
theorem dX10_setCount_41 : decode cX10_setCount 41 = .ok (.iconst 4, 1) := by decide +kernel
theorem dX10_setCount_42 : decode cX10_setCount 42 = .ok (.invokevirtual 108, 3) := by decide +kernel
theorem dX10_setCount_45 : decode cX10_setCount 45 = .ok (.istore_n 3, 1) := by decide +kernel
theorem dX10_setCount_46 : decode cX10_setCount 46 = .ok (.aload_n 0, 1) := by decide +kernel
theorem dX10_setCount_47 : decode cX10_setCount 47 = .ok (.getfield 7, 3) := by decide +kernel
theorem dX10_setCount_50 : decode cX10_setCount 50 = .ok (.sipush 145, 3) := by decide +kernel
theorem dX10_setCount_53 : decode cX10_setCount 53 = .ok (.bipush 6, 2) := by decide +kernel
theorem dX10_setCount_55 : decode cX10_setCount 55 = .ok (.iload_n 1, 1) := by decide +kernel
theorem dX10_setCount_56 : decode cX10_setCount 56 = .ok (.imul, 1) := by decide +kernel
theorem dX10_setCount_57 : decode cX10_setCount 57 = .ok (.iadd, 1) := by decide +kernel
theorem dX10_setCount_58 : decode cX10_setCount 58 = .ok (.iconst 4, 1) := by decide +kernel
theorem dX10_setCount_59 : decode cX10_setCount 59 = .ok (.iadd, 1) := by decide +kernel
theorem dX10_setCount_60 : decode cX10_setCount 60 = .ok (.iload_n 2, 1) := by decide +kernel
theorem dX10_setCount_61 : decode cX10_setCount 61 = .ok (.iastore, 1) := by decide +kernel
theorem dX10_setCount_62 : decode cX10_setCount 62 = .ok (.iload_n 3, 1) := by decide +kernel
theorem dX10_setCount_63 : decode cX10_setCount 63 = .ok (.ireturn, 1) := by decide +kernel
theorem dX10_close_0 : decode cX10_close 0 = .ok (.aload_n 0, 1) := by decide +kernel
theorem dX10_close_1 : decode cX10_close 1 = .ok (.iload_n 1, 1) := by decide +kernel
theorem dX10_close_2 : decode cX10_close 2 = .ok (.invokevirtual 427, 3) := by decide +kernel
theorem dX10_close_5 : decode cX10_close 5 = .ok (.ifCond .eq 5, 3) := by decide +kernel
theorem dX10_close_8 : decode cX10_close 8 = .ok (.iconst 0, 1) := by decide +kernel
theorem dX10_close_9 : decode cX10_close 9 = .ok (.ireturn, 1) := by decide +kernel
theorem dX10_close_10 : decode cX10_close 10 = .ok (.aload_n 0, 1) := by decide +kernel
theorem dX10_close_11 : decode cX10_close 11 = .ok (.invokevirtual 457, 3) := by decide +kernel
theorem dX10_close_14 : decode cX10_close 14 = .ok (.aload_n 0, 1) := by decide +kernel
theorem dX10_close_15 : decode cX10_close 15 = .ok (.iload_n 1, 1) := by decide +kernel
theorem dX10_close_16 : decode cX10_close 16 = .ok (.invokevirtual 111, 3) := by decide +kernel
theorem dX10_close_19 : decode cX10_close 19 = .ok (.istore_n 3, 1) := by decide +kernel
theorem dX10_close_20 : decode cX10_close 20 = .ok (.aload_n 0, 1) := by decide +kernel
theorem dX10_close_21 : decode cX10_close 21 = .ok (.getfield 7, 3) := by decide +kernel
theorem dX10_close_24 : decode cX10_close 24 = .ok (.bipush 15, 2) := by decide +kernel
theorem dX10_close_26 : decode cX10_close 26 = .ok (.iload_n 2, 1) := by decide +kernel
theorem dX10_close_27 : decode cX10_close 27 = .ok (.ifCond .eq 17, 3) := by decide +kernel
theorem dX10_close_30 : decode cX10_close 30 = .ok (.aload_n 0, 1) := by decide +kernel
theorem dX10_close_31 : decode cX10_close 31 = .ok (.getfield 7, 3) := by decide +kernel
theorem dX10_close_34 : decode cX10_close 34 = .ok (.bipush 15, 2) := by decide +kernel
theorem dX10_close_36 : decode cX10_close 36 = .ok (.iaload, 1) := by decide +kernel
theorem dX10_close_37 : decode cX10_close 37 = .ok (.iconst 1, 1) := by decide +kernel
theorem dX10_close_38 : decode cX10_close 38 = .ok (.iload_n 1, 1) := by decide +kernel
theorem dX10_close_39 : decode cX10_close 39 = .ok (.ishl, 1) := by decide +kernel
theorem dX10_close_40 : decode cX10_close 40 = .ok (.ior, 1) := by decide +kernel
theorem dX10_close_41 : decode cX10_close 41 = .ok (.goto 16, 3) := by decide +kernel
theorem dX10_close_44 : decode cX10_close 44 = .ok (.aload_n 0, 1) := by decide +kernel
theorem dX10_close_45 : decode cX10_close 45 = .ok (.getfield 7, 3) := by decide +kernel
theorem dX10_close_48 : decode cX10_close 48 = .ok (.bipush 15, 2) := by decide +kernel
theorem dX10_close_50 : decode cX10_close 50 = .ok (.iaload, 1) := by decide +kernel
theorem dX10_close_51 : decode cX10_close 51 = .ok (.iconst 1, 1) := by decide +kernel
theorem dX10_close_52 : decode cX10_close 52 = .ok (.iload_n 1, 1) := by decide +kernel
theorem dX10_close_53 : decode cX10_close 53 = .ok (.ishl, 1) := by decide +kernel
theorem dX10_close_54 : decode cX10_close 54 = .ok (.iconst (-1), 1) := by decide +kernel
theorem dX10_close_55 : decode cX10_close 55 = .ok (.ixor, 1) := by decide +kernel
theorem dX10_close_56 : decode cX10_close 56 = .ok (.iand, 1) := by decide +kernel
theorem dX10_close_57 : decode cX10_close 57 = .ok (.iastore, 1) := by decide +kernel
theorem dX10_close_58 : decode cX10_close 58 = .ok (.iload_n 3, 1) := by decide +kernel
theorem dX10_close_59 : decode cX10_close 59 = .ok (.ireturn, 1) := by decide +kernel
theorem dX10_patch_0 : decode cX10_patch 0 = .ok (.aload_n 0, 1) := by decide +kernel
theorem dX10_patch_1 : decode cX10_patch 1 = .ok (.iload_n 1, 1) := by decide +kernel
theorem dX10_patch_2 : decode cX10_patch 2 = .ok (.iload_n 2, 1) := by decide +kernel
theorem dX10_patch_3 : decode cX10_patch 3 = .ok (.iload_n 3, 1) := by decide +kernel
theorem dX10_patch_4 : decode cX10_patch 4 = .ok (.invokevirtual 448, 3) := by decide +kernel
theorem dX10_patch_7 : decode cX10_patch 7 = .ok (.ifCond .eq 5, 3) := by decide +kernel
theorem dX10_patch_10 : decode cX10_patch 10 = .ok (.iconst 0, 1) := by decide +kernel
theorem dX10_patch_11 : decode cX10_patch 11 = .ok (.ireturn, 1) := by decide +kernel
theorem dX10_patch_12 : decode cX10_patch 12 = .ok (.aload_n 0, 1) := by decide +kernel
theorem dX10_patch_13 : decode cX10_patch 13 = .ok (.iload_n 1, 1) := by decide +kernel
theorem dX10_patch_14 : decode cX10_patch 14 = .ok (.iload_n 2, 1) := by decide +kernel
theorem dX10_patch_15 : decode cX10_patch 15 = .ok (.iload_n 3, 1) := by decide +kernel
theorem dX10_patch_16 : decode cX10_patch 16 = .ok (.invokevirtual 451, 3) := by decide +kernel
theorem dX10_patch_19 : decode cX10_patch 19 = .ok (.istore 4, 2) := by decide +kernel
theorem dX10_patch_21 : decode cX10_patch 21 = .ok (.iload 4, 2) := by decide +kernel
theorem dX10_patch_23 : decode cX10_patch 23 = .ok (.ifCond .eq 7, 3) := by decide +kernel
theorem dX10_patch_26 : decode cX10_patch 26 = .ok (.iload 4, 2) := by decide +kernel
theorem dX10_patch_28 : decode cX10_patch 28 = .ok (.ineg, 1) := by decide +kernel
theorem dX10_patch_29 : decode cX10_patch 29 = .ok (.ireturn, 1) := by decide +kernel
theorem dX10_patch_30 : decode cX10_patch 30 = .ok (.aload_n 0, 1) := by decide +kernel
theorem dX10_patch_31 : decode cX10_patch 31 = .ok (.invokevirtual 457, 3) := by decide +kernel
theorem dX10_patch_34 : decode cX10_patch 34 = .ok (.aload_n 0, 1) := by decide +kernel
theorem dX10_patch_35 : decode cX10_patch 35 = .ok (.iload_n 1, 1) := by decide +kernel
theorem dX10_patch_36 : decode cX10_patch 36 = .ok (.iload_n 2, 1) := by decide +kernel
theorem dX10_patch_37 : decode cX10_patch 37 = .ok (.iload_n 3, 1) := by decide +kernel
theorem dX10_patch_38 : decode cX10_patch 38 = .ok (.invokevirtual 205, 3) := by decide +kernel
theorem dX10_patch_41 : decode cX10_patch 41 = .ok (.istore 5, 2) := by decide +kernel
theorem dX10_patch_43 : decode cX10_patch 43 = .ok (.aload_n 0, 1) := by decide +kernel
theorem dX10_patch_44 : decode cX10_patch 44 = .ok (.getfield 7, 3) := by decide +kernel
theorem dX10_patch_47 : decode cX10_patch 47 = .ok (.bipush 11, 2) := by decide +kernel
theorem dX10_patch_49 : decode cX10_patch 49 = .ok (.dup2, 1) := by decide +kernel
theorem dX10_patch_50 : decode cX10_patch 50 = .ok (.iaload, 1) := by decide +kernel
theorem dX10_patch_51 : decode cX10_patch 51 = .ok (.iload 5, 2) := by decide +kernel
theorem dX10_patch_53 : decode cX10_patch 53 = .ok (.isub, 1) := by decide +kernel
theorem dX10_patch_54 : decode cX10_patch 54 = .ok (.iastore, 1) := by decide +kernel
theorem dX10_patch_55 : decode cX10_patch 55 = .ok (.aload_n 0, 1) := by decide +kernel
theorem dX10_patch_56 : decode cX10_patch 56 = .ok (.getfield 7, 3) := by decide +kernel
theorem dX10_patch_59 : decode cX10_patch 59 = .ok (.bipush 11, 2) := by decide +kernel
theorem dX10_patch_61 : decode cX10_patch 61 = .ok (.iload_n 1, 1) := by decide +kernel
theorem dX10_patch_62 : decode cX10_patch 62 = .ok (.iadd, 1) := by decide +kernel
theorem dX10_patch_63 : decode cX10_patch 63 = .ok (.dup2, 1) := by decide +kernel
theorem dX10_patch_64 : decode cX10_patch 64 = .ok (.iaload, 1) := by decide +kernel
theorem dX10_patch_65 : decode cX10_patch 65 = .ok (.iload 5, 2) := by decide +kernel
theorem dX10_patch_67 : decode cX10_patch 67 = .ok (.iadd, 1) := by decide +kernel
theorem dX10_patch_68 : decode cX10_patch 68 = .ok (.iastore, 1) := by decide +kernel
theorem dX10_patch_69 : decode cX10_patch 69 = .ok (.aload_n 0, 1) := by decide +kernel
theorem dX10_patch_70 : decode cX10_patch 70 = .ok (.iload_n 1, 1) := by decide +kernel
theorem dX10_patch_71 : decode cX10_patch 71 = .ok (.iload_n 2, 1) := by decide +kernel
theorem dX10_patch_72 : decode cX10_patch 72 = .ok (.iload_n 3, 1) := by decide +kernel
theorem dX10_patch_73 : decode cX10_patch 73 = .ok (.invokevirtual 212, 3) := by decide +kernel
theorem dX10_patch_76 : decode cX10_patch 76 = .ok (.iload 5, 2) := by decide +kernel
theorem dX10_patch_78 : decode cX10_patch 78 = .ok (.ireturn, 1) := by decide +kernel
theorem dX10_set_0 : decode cX10_set 0 = .ok (.aload_n 0, 1) := by decide +kernel
theorem dX10_set_1 : decode cX10_set 1 = .ok (.iconst 0, 1) := by decide +kernel
theorem dX10_set_2 : decode cX10_set 2 = .ok (.putfield 54, 3) := by decide +kernel
theorem dX10_set_5 : decode cX10_set 5 = .ok (.aload_n 0, 1) := by decide +kernel
theorem dX10_set_6 : decode cX10_set 6 = .ok (.iload_n 1, 1) := by decide +kernel
theorem dX10_set_7 : decode cX10_set 7 = .ok (.i2l, 1) := by decide +kernel
theorem dX10_set_8 : decode cX10_set 8 = .ok (.lconst 0, 1) := by decide +kernel
theorem dX10_set_9 : decode cX10_set 9 = .ok (.ldc2_w 407, 3) := by decide +kernel
theorem dX10_set_12 : decode cX10_set 12 = .ok (.invokestatic 129, 3) := by decide +kernel
theorem dX10_set_15 : decode cX10_set 15 = .ok (.ifCond .ne 7, 3) := by decide +kernel
theorem dX10_set_18 : decode cX10_set 18 = .ok (.iconst 1, 1) := by decide +kernel
theorem dX10_set_19 : decode cX10_set 19 = .ok (.goto 4, 3) := by decide +kernel
theorem dX10_set_22 : decode cX10_set 22 = .ok (.iconst 0, 1) := by decide +kernel
theorem dX10_set_23 : decode cX10_set 23 = .ok (.iconst 1, 1) := by decide +kernel
theorem dX10_set_24 : decode cX10_set 24 = .ok (.invokevirtual 380, 3) := by decide +kernel
theorem dX10_set_27 : decode cX10_set 27 = .ok (.ifCond .ne 34, 3) := by decide +kernel
theorem dX10_set_30 : decode cX10_set 30 = .ok (.aload_n 0, 1) := by decide +kernel
theorem dX10_set_31 : decode cX10_set 31 = .ok (.iload_n 2, 1) := by decide +kernel
theorem dX10_set_32 : decode cX10_set 32 = .ok (.i2l, 1) := by decide +kernel
theorem dX10_set_33 : decode cX10_set 33 = .ok (.iload_n 1, 1) := by decide +kernel
theorem dX10_set_34 : decode cX10_set 34 = .ok (.invokestatic 343, 3) := by decide +kernel
theorem dX10_set_37 : decode cX10_set 37 = .ok (.i2l, 1) := by decide +kernel
theorem dX10_set_38 : decode cX10_set 38 = .ok (.iload_n 1, 1) := by decide +kernel
theorem dX10_set_39 : decode cX10_set 39 = .ok (.invokestatic 346, 3) := by decide +kernel
theorem dX10_set_42 : decode cX10_set 42 = .ok (.i2l, 1) := by decide +kernel
theorem dX10_set_43 : decode cX10_set 43 = .ok (.invokestatic 129, 3) := by decide +kernel
theorem dX10_set_46 : decode cX10_set 46 = .ok (.ifCond .ne 7, 3) := by decide +kernel
theorem dX10_set_49 : decode cX10_set 49 = .ok (.iconst 1, 1) := by decide +kernel
theorem dX10_set_50 : decode cX10_set 50 = .ok (.goto 4, 3) := by decide +kernel
theorem dX10_set_53 : decode cX10_set 53 = .ok (.iconst 0, 1) := by decide +kernel
theorem dX10_set_54 : decode cX10_set 54 = .ok (.iconst 1, 1) := by decide +kernel
theorem dX10_set_55 : decode cX10_set 55 = .ok (.invokevirtual 380, 3) := by decide +kernel
theorem dX10_set_58 : decode cX10_set 58 = .ok (.ifCond .eq 5, 3) := by decide +kernel
theorem dX10_set_61 : decode cX10_set 61 = .ok (.iconst 0, 1) := by decide +kernel
theorem dX10_set_62 : decode cX10_set 62 = .ok (.ireturn, 1) := by decide +kernel
theorem dX10_set_63 : decode cX10_set 63 = .ok (.aload_n 0, 1) := by decide +kernel
theorem dX10_set_64 : decode cX10_set 64 = .ok (.invokevirtual 457, 3) := by decide +kernel
theorem dX10_set_67 : decode cX10_set 67 = .ok (.aload_n 0, 1) := by decide +kernel
theorem dX10_set_68 : decode cX10_set 68 = .ok (.getfield 7, 3) := by decide +kernel
theorem dX10_set_71 : decode cX10_set 71 = .ok (.iload_n 1, 1) := by decide +kernel
theorem dX10_set_72 : decode cX10_set 72 = .ok (.iaload, 1) := by decide +kernel
theorem dX10_set_73 : decode cX10_set 73 = .ok (.istore_n 3, 1) := by decide +kernel
theorem dX10_set_74 : decode cX10_set 74 = .ok (.aload_n 0, 1) := by decide +kernel
theorem dX10_set_75 : decode cX10_set 75 = .ok (.getfield 7, 3) := by decide +kernel
theorem dX10_set_78 : decode cX10_set 78 = .ok (.iload_n 1, 1) := by decide +kernel
theorem dX10_set_79 : decode cX10_set 79 = .ok (.iload_n 2, 1) := by decide +kernel
theorem dX10_set_80 : decode cX10_set 80 = .ok (.iastore, 1) := by decide +kernel
theorem dX10_set_81 : decode cX10_set 81 = .ok (.iload_n 3, 1) := by decide +kernel
theorem dX10_set_82 : decode cX10_set 82 = .ok (.ireturn, 1) := by decide +kernel
theorem dX10_give_0 : decode cX10_give 0 = .ok (.aload_n 0, 1) := by decide +kernel
theorem dX10_give_1 : decode cX10_give 1 = .ok (.iconst 0, 1) := by decide +kernel
theorem dX10_give_2 : decode cX10_give 2 = .ok (.putfield 54, 3) := by decide +kernel
theorem dX10_give_5 : decode cX10_give 5 = .ok (.aload_n 0, 1) := by decide +kernel
theorem dX10_give_6 : decode cX10_give 6 = .ok (.iload_n 1, 1) := by decide +kernel
theorem dX10_give_7 : decode cX10_give 7 = .ok (.i2l, 1) := by decide +kernel
theorem dX10_give_8 : decode cX10_give 8 = .ok (.lconst 1, 1) := by decide +kernel
theorem dX10_give_9 : decode cX10_give 9 = .ok (.ldc2_w 115, 3) := by decide +kernel
theorem dX10_give_12 : decode cX10_give 12 = .ok (.invokestatic 129, 3) := by decide +kernel
theorem dX10_give_15 : decode cX10_give 15 = .ok (.ifCond .ne 7, 3) := by decide +kernel
theorem dX10_give_18 : decode cX10_give 18 = .ok (.iconst 1, 1) := by decide +kernel
theorem dX10_give_19 : decode cX10_give 19 = .ok (.goto 4, 3) := by decide +kernel
theorem dX10_give_22 : decode cX10_give 22 = .ok (.iconst 0, 1) := by decide +kernel
theorem dX10_give_23 : decode cX10_give 23 = .ok (.iconst 1, 1) := by decide +kernel
theorem dX10_give_24 : decode cX10_give 24 = .ok (.invokevirtual 380, 3) := by decide +kernel
theorem dX10_give_27 : decode cX10_give 27 = .ok (.ifCond .eq 5, 3) := by decide +kernel
theorem dX10_give_30 : decode cX10_give 30 = .ok (.iconst 0, 1) := by decide +kernel
theorem dX10_give_31 : decode cX10_give 31 = .ok (.ireturn, 1) := by decide +kernel
theorem dX10_give_32 : decode cX10_give 32 = .ok (.aload_n 0, 1) := by decide +kernel
theorem dX10_give_33 : decode cX10_give 33 = .ok (.invokevirtual 457, 3) := by decide +kernel
theorem dX10_give_36 : decode cX10_give 36 = .ok (.aload_n 0, 1) := by decide +kernel
theorem dX10_give_37 : decode cX10_give 37 = .ok (.getfield 7, 3) := by decide +kernel
theorem dX10_give_40 : decode cX10_give 40 = .ok (.bipush 11, 2) := by decide +kernel
theorem dX10_give_42 : decode cX10_give 42 = .ok (.ldc_w 318, 3) := by decide +kernel
theorem dX10_give_45 : decode cX10_give 45 = .ok (.aload_n 0, 1) := by decide +kernel
theorem dX10_give_46 : decode cX10_give 46 = .ok (.getfield 7, 3) := by decide +kernel
theorem dX10_give_49 : decode cX10_give 49 = .ok (.bipush 11, 2) := by decide +kernel
theorem dX10_give_51 : decode cX10_give 51 = .ok (.iaload, 1) := by decide +kernel
theorem dX10_give_52 : decode cX10_give 52 = .ok (.iload_n 1, 1) := by decide +kernel
theorem dX10_give_53 : decode cX10_give 53 = .ok (.iadd, 1) := by decide +kernel
theorem dX10_give_54 : decode cX10_give 54 = .ok (.invokestatic 189, 3) := by decide +kernel
theorem dX10_give_57 : decode cX10_give 57 = .ok (.iastore, 1) := by decide +kernel
theorem dX10_give_58 : decode cX10_give 58 = .ok (.aload_n 0, 1) := by decide +kernel
theorem dX10_give_59 : decode cX10_give 59 = .ok (.getfield 7, 3) := by decide +kernel
theorem dX10_give_62 : decode cX10_give 62 = .ok (.bipush 11, 2) := by decide +kernel
theorem dX10_give_64 : decode cX10_give 64 = .ok (.iaload, 1) := by decide +kernel
theorem dX10_give_65 : decode cX10_give 65 = .ok (.ireturn, 1) := by decide +kernel
theorem dX10_undo_0 : decode cX10_undo 0 = .ok (.aload_n 0, 1) := by decide +kernel
theorem dX10_undo_1 : decode cX10_undo 1 = .ok (.iconst 0, 1) := by decide +kernel
theorem dX10_undo_2 : decode cX10_undo 2 = .ok (.putfield 54, 3) := by decide +kernel
theorem dX10_undo_5 : decode cX10_undo 5 = .ok (.aload_n 0, 1) := by decide +kernel
theorem dX10_undo_6 : decode cX10_undo 6 = .ok (.aload_n 0, 1) := by decide +kernel
theorem dX10_undo_7 : decode cX10_undo 7 = .ok (.getfield 57, 3) := by decide +kernel
theorem dX10_undo_10 : decode cX10_undo 10 = .ok (.ifCond .ne 7, 3) := by decide +kernel
theorem dX10_undo_13 : decode cX10_undo 13 = .ok (.iconst 1, 1) := by decide +kernel
theorem dX10_undo_14 : decode cX10_undo 14 = .ok (.goto 4, 3) := by decide +kernel
theorem dX10_undo_17 : decode cX10_undo 17 = .ok (.iconst 0, 1) := by decide +kernel
theorem dX10_undo_18 : decode cX10_undo 18 = .ok (.iconst 1, 1) := by decide +kernel
theorem dX10_undo_19 : decode cX10_undo 19 = .ok (.invokevirtual 380, 3) := by decide +kernel
theorem dX10_undo_22 : decode cX10_undo 22 = .ok (.ifCond .eq 5, 3) := by decide +kernel
theorem dX10_undo_25 : decode cX10_undo 25 = .ok (.iconst 0, 1) := by decide +kernel
theorem dX10_undo_26 : decode cX10_undo 26 = .ok (.ireturn, 1) := by decide +kernel
theorem dX10_undo_27 : decode cX10_undo 27 = .ok (.aload_n 0, 1) := by decide +kernel
theorem dX10_undo_28 : decode cX10_undo 28 = .ok (.dup, 1) := by decide +kernel
theorem dX10_undo_29 : decode cX10_undo 29 = .ok (.getfield 57, 3) := by decide +kernel
theorem dX10_undo_32 : decode cX10_undo 32 = .ok (.iconst 1, 1) := by decide +kernel
theorem dX10_undo_33 : decode cX10_undo 33 = .ok (.isub, 1) := by decide +kernel
theorem dX10_undo_34 : decode cX10_undo 34 = .ok (.putfield 57, 3) := by decide +kernel
theorem dX10_undo_37 : decode cX10_undo 37 = .ok (.aload_n 0, 1) := by decide +kernel
theorem dX10_undo_38 : decode cX10_undo 38 = .ok (.getfield 19, 3) := by decide +kernel
theorem dX10_undo_41 : decode cX10_undo 41 = .ok (.sipush 400, 3) := by decide +kernel
theorem dX10_undo_44 : decode cX10_undo 44 = .ok (.aload_n 0, 1) := by decide +kernel
theorem dX10_undo_45 : decode cX10_undo 45 = .ok (.getfield 57, 3) := by decide +kernel
theorem dX10_undo_48 : decode cX10_undo 48 = .ok (.imul, 1) := by decide +kernel
theorem dX10_undo_49 : decode cX10_undo 49 = .ok (.aload_n 0, 1) := by decide +kernel
theorem dX10_undo_50 : decode cX10_undo 50 = .ok (.getfield 7, 3) := by decide +kernel
theorem dX10_undo_53 : decode cX10_undo 53 = .ok (.iconst 0, 1) := by decide +kernel
theorem dX10_undo_54 : decode cX10_undo 54 = .ok (.sipush 400, 3) := by decide +kernel
theorem dX10_undo_57 : decode cX10_undo 57 = .ok (.invokestatic 60, 3) := by decide +kernel
theorem dX10_undo_60 : decode cX10_undo 60 = .ok (.aload_n 0, 1) := by decide +kernel
theorem dX10_undo_61 : decode cX10_undo 61 = .ok (.getfield 29, 3) := by decide +kernel
theorem dX10_undo_64 : decode cX10_undo 64 = .ok (.bipush 64, 2) := by decide +kernel
theorem dX10_undo_66 : decode cX10_undo 66 = .ok (.aload_n 0, 1) := by decide +kernel
theorem dX10_undo_67 : decode cX10_undo 67 = .ok (.getfield 57, 3) := by decide +kernel
theorem dX10_undo_70 : decode cX10_undo 70 = .ok (.imul, 1) := by decide +kernel
theorem dX10_undo_71 : decode cX10_undo 71 = .ok (.aload_n 0, 1) := by decide +kernel
theorem dX10_undo_72 : decode cX10_undo 72 = .ok (.getfield 22, 3) := by decide +kernel
theorem dX10_undo_75 : decode cX10_undo 75 = .ok (.iconst 0, 1) := by decide +kernel
theorem dX10_undo_76 : decode cX10_undo 76 = .ok (.bipush 64, 2) := by decide +kernel
theorem dX10_undo_78 : decode cX10_undo 78 = .ok (.invokestatic 64, 3) := by decide +kernel
theorem dX10_undo_81 : decode cX10_undo 81 = .ok (.aload_n 0, 1) := by decide +kernel
theorem dX10_undo_82 : decode cX10_undo 82 = .ok (.getfield 57, 3) := by decide +kernel
theorem dX10_undo_85 : decode cX10_undo 85 = .ok (.ireturn, 1) := by decide +kernel
theorem dX10_write_0 : decode cX10_write 0 = .ok (.aload_n 0, 1) := by decide +kernel
theorem dX10_write_1 : decode cX10_write 1 = .ok (.getfield 48, 3) := by decide +kernel
theorem dX10_write_4 : decode cX10_write 4 = .ok (.aload_n 0, 1) := by decide +kernel
theorem dX10_write_5 : decode cX10_write 5 = .ok (.getfield 478, 3) := by decide +kernel
theorem dX10_write_8 : decode cX10_write 8 = .ok (.iload_n 1, 1) := by decide +kernel
theorem dX10_write_9 : decode cX10_write 9 = .ok (.iastore, 1) := by decide +kernel
theorem dX10_write_10 : decode cX10_write 10 = .ok (.aload_n 0, 1) := by decide +kernel
theorem dX10_write_11 : decode cX10_write 11 = .ok (.dup, 1) := by decide +kernel
theorem dX10_write_12 : decode cX10_write 12 = .ok (.getfield 478, 3) := by decide +kernel
theorem dX10_write_15 : decode cX10_write 15 = .ok (.iconst 1, 1) := by decide +kernel
theorem dX10_write_16 : decode cX10_write 16 = .ok (.iadd, 1) := by decide +kernel
theorem dX10_write_17 : decode cX10_write 17 = .ok (.putfield 478, 3) := by decide +kernel
theorem dX10_write_20 : decode cX10_write 20 = .ok (.return_, 1) := by decide +kernel
theorem dX10_writeNumber_0 : decode cX10_writeNumber 0 = .ok (.iconst 1, 1) := by decide +kernel
theorem dX10_writeNumber_1 : decode cX10_writeNumber 1 = .ok (.istore_n 2, 1) := by decide +kernel
theorem dX10_writeNumber_2 : decode cX10_writeNumber 2 = .ok (.iload_n 1, 1) := by decide +kernel
theorem dX10_writeNumber_3 : decode cX10_writeNumber 3 = .ok (.iload_n 2, 1) := by decide +kernel
theorem dX10_writeNumber_4 : decode cX10_writeNumber 4 = .ok (.idiv, 1) := by decide +kernel
theorem dX10_writeNumber_5 : decode cX10_writeNumber 5 = .ok (.bipush 9, 2) := by decide +kernel
theorem dX10_writeNumber_7 : decode cX10_writeNumber 7 = .ok (.if_icmp .le 11, 3) := by decide +kernel
theorem dX10_writeNumber_10 : decode cX10_writeNumber 10 = .ok (.iload_n 2, 1) := by decide +kernel
theorem dX10_writeNumber_11 : decode cX10_writeNumber 11 = .ok (.bipush 10, 2) := by decide +kernel
theorem dX10_writeNumber_13 : decode cX10_writeNumber 13 = .ok (.imul, 1) := by decide +kernel
theorem dX10_writeNumber_14 : decode cX10_writeNumber 14 = .ok (.istore_n 2, 1) := by decide +kernel
theorem dX10_writeNumber_15 : decode cX10_writeNumber 15 = .ok (.goto (-13), 3) := by decide +kernel
theorem dX10_writeNumber_18 : decode cX10_writeNumber 18 = .ok (.iload_n 2, 1) := by decide +kernel
theorem dX10_writeNumber_19 : decode cX10_writeNumber 19 = .ok (.ifCond .le 24, 3) := by decide +kernel
theorem dX10_writeNumber_22 : decode cX10_writeNumber 22 = .ok (.aload_n 0, 1) := by decide +kernel
theorem dX10_writeNumber_23 : decode cX10_writeNumber 23 = .ok (.bipush 48, 2) := by decide +kernel
theorem dX10_writeNumber_25 : decode cX10_writeNumber 25 = .ok (.iload_n 1, 1) := by decide +kernel
theorem dX10_writeNumber_26 : decode cX10_writeNumber 26 = .ok (.iload_n 2, 1) := by decide +kernel
theorem dX10_writeNumber_27 : decode cX10_writeNumber 27 = .ok (.idiv, 1) := by decide +kernel
theorem dX10_writeNumber_28 : decode cX10_writeNumber 28 = .ok (.bipush 10, 2) := by decide +kernel
theorem dX10_writeNumber_30 : decode cX10_writeNumber 30 = .ok (.irem, 1) := by decide +kernel
theorem dX10_writeNumber_31 : decode cX10_writeNumber 31 = .ok (.iadd, 1) := by decide +kernel
theorem dX10_writeNumber_32 : decode cX10_writeNumber 32 = .ok (.invokevirtual 481, 3) := by decide +kernel
theorem dX10_writeNumber_35 : decode cX10_writeNumber 35 = .ok (.iload_n 2, 1) := by decide +kernel
theorem dX10_writeNumber_36 : decode cX10_writeNumber 36 = .ok (.bipush 10, 2) := by decide +kernel
theorem dX10_writeNumber_38 : decode cX10_writeNumber 38 = .ok (.idiv, 1) := by decide +kernel
theorem dX10_writeNumber_39 : decode cX10_writeNumber 39 = .ok (.istore_n 2, 1) := by decide +kernel
theorem dX10_writeNumber_40 : decode cX10_writeNumber 40 = .ok (.goto (-22), 3) := by decide +kernel
theorem dX10_writeNumber_43 : decode cX10_writeNumber 43 = .ok (.return_, 1) := by decide +kernel
theorem dX10_letterOf_0 : decode cX10_letterOf 0 = .ok (.iload_n 0, 1) := by decide +kernel
theorem dX10_letterOf_1 : decode cX10_letterOf 1 = .ok (.ifCond .ne 8, 3) := by decide +kernel
theorem dX10_letterOf_4 : decode cX10_letterOf 4 = .ok (.bipush 97, 2) := by decide +kernel
theorem dX10_letterOf_6 : decode cX10_letterOf 6 = .ok (.goto 25, 3) := by decide +kernel
theorem dX10_letterOf_9 : decode cX10_letterOf 9 = .ok (.iload_n 0, 1) := by decide +kernel
theorem dX10_letterOf_10 : decode cX10_letterOf 10 = .ok (.iconst 1, 1) := by decide +kernel
theorem dX10_letterOf_11 : decode cX10_letterOf 11 = .ok (.if_icmp .ne 8, 3) := by decide +kernel
theorem dX10_letterOf_14 : decode cX10_letterOf 14 = .ok (.bipush 98, 2) := by decide +kernel
theorem dX10_letterOf_16 : decode cX10_letterOf 16 = .ok (.goto 15, 3) := by decide +kernel
theorem dX10_letterOf_19 : decode cX10_letterOf 19 = .ok (.iload_n 0, 1) := by decide +kernel
theorem dX10_letterOf_20 : decode cX10_letterOf 20 = .ok (.iconst 2, 1) := by decide +kernel
theorem dX10_letterOf_21 : decode cX10_letterOf 21 = .ok (.if_icmp .ne 8, 3) := by decide +kernel
theorem dX10_letterOf_24 : decode cX10_letterOf 24 = .ok (.bipush 103, 2) := by decide +kernel
theorem dX10_letterOf_26 : decode cX10_letterOf 26 = .ok (.goto 5, 3) := by decide +kernel
theorem dX10_letterOf_29 : decode cX10_letterOf 29 = .ok (.bipush 115, 2) := by decide +kernel
theorem dX10_letterOf_31 : decode cX10_letterOf 31 = .ok (.ireturn, 1) := by decide +kernel
theorem dX10_printCell_0 : decode cX10_printCell 0 = .ok (.aload_n 0, 1) := by decide +kernel
theorem dX10_printCell_1 : decode cX10_printCell 1 = .ok (.iload_n 1, 1) := by decide +kernel
theorem dX10_printCell_2 : decode cX10_printCell 2 = .ok (.invokevirtual 386, 3) := by decide +kernel
theorem dX10_printCell_5 : decode cX10_printCell 5 = .ok (.ifCond .eq 5, 3) := by decide +kernel
theorem dX10_printCell_8 : decode cX10_printCell 8 = .ok (.iconst 0, 1) := by decide +kernel
theorem dX10_printCell_9 : decode cX10_printCell 9 = .ok (.ireturn, 1) := by decide +kernel
theorem dX10_printCell_10 : decode cX10_printCell 10 = .ok (.aload_n 0, 1) := by decide +kernel
theorem dX10_printCell_11 : decode cX10_printCell 11 = .ok (.iconst 0, 1) := by decide +kernel
theorem dX10_printCell_12 : decode cX10_printCell 12 = .ok (.putfield 478, 3) := by decide +kernel
theorem dX10_printCell_15 : decode cX10_printCell 15 = .ok (.aload_n 0, 1) := by decide +kernel
theorem dX10_printCell_16 : decode cX10_printCell 16 = .ok (.iload_n 1, 1) := by decide +kernel
theorem dX10_printCell_17 : decode cX10_printCell 17 = .ok (.invokevirtual 96, 3) := by decide +kernel
theorem dX10_printCell_20 : decode cX10_printCell 20 = .ok (.istore_n 2, 1) := by decide +kernel
theorem dX10_printCell_21 : decode cX10_printCell 21 = .ok (.iconst 0, 1) := by decide +kernel
theorem dX10_printCell_22 : decode cX10_printCell 22 = .ok (.istore_n 3, 1) := by decide +kernel
theorem dX10_printCell_23 : decode cX10_printCell 23 = .ok (.iload_n 3, 1) := by decide +kernel
theorem dX10_printCell_24 : decode cX10_printCell 24 = .ok (.aload_n 0, 1) := by decide +kernel
theorem dX10_printCell_25 : decode cX10_printCell 25 = .ok (.getfield 7, 3) := by decide +kernel
theorem dX10_printCell_28 : decode cX10_printCell 28 = .ok (.iload_n 2, 1) := by decide +kernel
theorem dX10_printCell_29 : decode cX10_printCell 29 = .ok (.iaload, 1) := by decide +kernel
theorem dX10_printCell_30 : decode cX10_printCell 30 = .ok (.if_icmp .ge 54, 3) := by decide +kernel
theorem dX10_printCell_33 : decode cX10_printCell 33 = .ok (.iload_n 3, 1) := by decide +kernel
theorem dX10_printCell_34 : decode cX10_printCell 34 = .ok (.ifCond .le 9, 3) := by decide +kernel
theorem dX10_printCell_37 : decode cX10_printCell 37 = .ok (.aload_n 0, 1) := by decide +kernel
theorem dX10_printCell_38 : decode cX10_printCell 38 = .ok (.bipush 43, 2) := by decide +kernel
theorem dX10_printCell_40 : decode cX10_printCell 40 = .ok (.invokevirtual 481, 3) := by decide +kernel
theorem dX10_printCell_43 : decode cX10_printCell 43 = .ok (.aload_n 0, 1) := by decide +kernel
theorem dX10_printCell_44 : decode cX10_printCell 44 = .ok (.aload_n 0, 1) := by decide +kernel
theorem dX10_printCell_45 : decode cX10_printCell 45 = .ok (.getfield 7, 3) := by decide +kernel
theorem dX10_printCell_48 : decode cX10_printCell 48 = .ok (.iload_n 2, 1) := by decide +kernel
theorem dX10_printCell_49 : decode cX10_printCell 49 = .ok (.iconst 1, 1) := by decide +kernel
theorem dX10_printCell_50 : decode cX10_printCell 50 = .ok (.iadd, 1) := by decide +kernel
theorem dX10_printCell_51 : decode cX10_printCell 51 = .ok (.iconst 2, 1) := by decide +kernel
theorem dX10_printCell_52 : decode cX10_printCell 52 = .ok (.iload_n 3, 1) := by decide +kernel
theorem dX10_printCell_53 : decode cX10_printCell 53 = .ok (.imul, 1) := by decide +kernel
theorem dX10_printCell_54 : decode cX10_printCell 54 = .ok (.iadd, 1) := by decide +kernel
theorem dX10_printCell_55 : decode cX10_printCell 55 = .ok (.iaload, 1) := by decide +kernel
theorem dX10_printCell_56 : decode cX10_printCell 56 = .ok (.invokestatic 484, 3) := by decide +kernel
theorem dX10_printCell_59 : decode cX10_printCell 59 = .ok (.invokevirtual 481, 3) := by decide +kernel
theorem dX10_printCell_62 : decode cX10_printCell 62 = .ok (.aload_n 0, 1) := by decide +kernel
theorem dX10_printCell_63 : decode cX10_printCell 63 = .ok (.aload_n 0, 1) := by decide +kernel
theorem dX10_printCell_64 : decode cX10_printCell 64 = .ok (.getfield 7, 3) := by decide +kernel
theorem dX10_printCell_67 : decode cX10_printCell 67 = .ok (.iload_n 2, 1) := by decide +kernel
theorem dX10_printCell_68 : decode cX10_printCell 68 = .ok (.iconst 2, 1) := by decide +kernel
theorem dX10_printCell_69 : decode cX10_printCell 69 = .ok (.iadd, 1) := by decide +kernel
theorem dX10_printCell_70 : decode cX10_printCell 70 = .ok (.iconst 2, 1) := by decide +kernel
theorem dX10_printCell_71 : decode cX10_printCell 71 = .ok (.iload_n 3, 1) := by decide +kernel
theorem dX10_printCell_72 : decode cX10_printCell 72 = .ok (.imul, 1) := by decide +kernel
theorem dX10_printCell_73 : decode cX10_printCell 73 = .ok (.iadd, 1) := by decide +kernel
theorem dX10_printCell_74 : decode cX10_printCell 74 = .ok (.iaload, 1) := by decide +kernel
theorem dX10_printCell_75 : decode cX10_printCell 75 = .ok (.invokevirtual 487, 3) := by decide +kernel
theorem dX10_printCell_78 : decode cX10_printCell 78 = .ok (.iinc 3 1, 3) := by decide +kernel
theorem dX10_printCell_81 : decode cX10_printCell 81 = .ok (.goto (-58), 3) := by decide +kernel
theorem dX10_printCell_84 : decode cX10_printCell 84 = .ok (.aload_n 0, 1) := by decide +kernel
theorem dX10_printCell_85 : decode cX10_printCell 85 = .ok (.iload_n 1, 1) := by decide +kernel
theorem dX10_printCell_86 : decode cX10_printCell 86 = .ok (.iconst 1, 1) := by decide +kernel
theorem dX10_printCell_87 : decode cX10_printCell 87 = .ok (.invokevirtual 87, 3) := by decide +kernel
theorem dX10_printCell_90 : decode cX10_printCell 90 = .ok (.ifCond .le 19, 3) := by decide +kernel
theorem dX10_printCell_93 : decode cX10_printCell 93 = .ok (.aload_n 0, 1) := by decide +kernel
theorem dX10_printCell_94 : decode cX10_printCell 94 = .ok (.bipush 45, 2) := by decide +kernel
theorem dX10_printCell_96 : decode cX10_printCell 96 = .ok (.invokevirtual 481, 3) := by decide +kernel
theorem dX10_printCell_99 : decode cX10_printCell 99 = .ok (.aload_n 0, 1) := by decide +kernel
theorem dX10_printCell_100 : decode cX10_printCell 100 = .ok (.aload_n 0, 1) := by decide +kernel
theorem dX10_printCell_101 : decode cX10_printCell 101 = .ok (.iload_n 1, 1) := by decide +kernel
theorem dX10_printCell_102 : decode cX10_printCell 102 = .ok (.iconst 1, 1) := by decide +kernel
theorem dX10_printCell_103 : decode cX10_printCell 103 = .ok (.invokevirtual 87, 3) := by decide +kernel
theorem dX10_printCell_106 : decode cX10_printCell 106 = .ok (.invokevirtual 487, 3) := by decide +kernel
theorem dX10_printCell_109 : decode cX10_printCell 109 = .ok (.aload_n 0, 1) := by decide +kernel
theorem dX10_printCell_110 : decode cX10_printCell 110 = .ok (.iload_n 1, 1) := by decide +kernel
theorem dX10_printCell_111 : decode cX10_printCell 111 = .ok (.iconst 2, 1) := by decide +kernel
theorem dX10_printCell_112 : decode cX10_printCell 112 = .ok (.invokevirtual 87, 3) := by decide +kernel
theorem dX10_printCell_115 : decode cX10_printCell 115 = .ok (.iconst 1, 1) := by decide +kernel
theorem dX10_printCell_116 : decode cX10_printCell 116 = .ok (.if_icmp .ne 9, 3) := by decide +kernel
theorem dX10_printCell_119 : decode cX10_printCell 119 = .ok (.aload_n 0, 1) := by decide +kernel
theorem dX10_printCell_120 : decode cX10_printCell 120 = .ok (.bipush 42, 2) := by decide +kernel
theorem dX10_printCell_122 : decode cX10_printCell 122 = .ok (.invokevirtual 481, 3) := by decide +kernel
theorem dX10_printCell_125 : decode cX10_printCell 125 = .ok (.aload_n 0, 1) := by decide +kernel
theorem dX10_printCell_126 : decode cX10_printCell 126 = .ok (.getfield 478, 3) := by decide +kernel
theorem dX10_printCell_129 : decode cX10_printCell 129 = .ok (.ireturn, 1) := by decide +kernel
theorem dX10_printLane_0 : decode cX10_printLane 0 = .ok (.aload_n 0, 1) := by decide +kernel
theorem dX10_printLane_1 : decode cX10_printLane 1 = .ok (.iload_n 1, 1) := by decide +kernel
theorem dX10_printLane_2 : decode cX10_printLane 2 = .ok (.invokevirtual 427, 3) := by decide +kernel
theorem dX10_printLane_5 : decode cX10_printLane 5 = .ok (.ifCond .eq 5, 3) := by decide +kernel
theorem dX10_printLane_8 : decode cX10_printLane 8 = .ok (.iconst 0, 1) := by decide +kernel
theorem dX10_printLane_9 : decode cX10_printLane 9 = .ok (.ireturn, 1) := by decide +kernel
theorem dX10_printLane_10 : decode cX10_printLane 10 = .ok (.aload_n 0, 1) := by decide +kernel
theorem dX10_printLane_11 : decode cX10_printLane 11 = .ok (.iconst 0, 1) := by decide +kernel
theorem dX10_printLane_12 : decode cX10_printLane 12 = .ok (.putfield 478, 3) := by decide +kernel
theorem dX10_printLane_15 : decode cX10_printLane 15 = .ok (.iconst 0, 1) := by decide +kernel
theorem dX10_printLane_16 : decode cX10_printLane 16 = .ok (.istore_n 2, 1) := by decide +kernel
theorem dX10_printLane_17 : decode cX10_printLane 17 = .ok (.iload_n 2, 1) := by decide +kernel
theorem dX10_printLane_18 : decode cX10_printLane 18 = .ok (.aload_n 0, 1) := by decide +kernel
theorem dX10_printLane_19 : decode cX10_printLane 19 = .ok (.getfield 7, 3) := by decide +kernel
theorem dX10_printLane_22 : decode cX10_printLane 22 = .ok (.bipush 6, 2) := by decide +kernel
theorem dX10_printLane_24 : decode cX10_printLane 24 = .ok (.iaload, 1) := by decide +kernel
theorem dX10_printLane_25 : decode cX10_printLane 25 = .ok (.if_icmp .ge 54, 3) := by decide +kernel
theorem dX10_printLane_28 : decode cX10_printLane 28 = .ok (.iload_n 2, 1) := by decide +kernel
theorem dX10_printLane_29 : decode cX10_printLane 29 = .ok (.ifCond .le 9, 3) := by decide +kernel
theorem dX10_printLane_32 : decode cX10_printLane 32 = .ok (.aload_n 0, 1) := by decide +kernel
theorem dX10_printLane_33 : decode cX10_printLane 33 = .ok (.bipush 32, 2) := by decide +kernel
theorem dX10_printLane_35 : decode cX10_printLane 35 = .ok (.invokevirtual 481, 3) := by decide +kernel
theorem dX10_printLane_38 : decode cX10_printLane 38 = .ok (.aload_n 0, 1) := by decide +kernel
theorem dX10_printLane_39 : decode cX10_printLane 39 = .ok (.aload_n 0, 1) := by decide +kernel
theorem dX10_printLane_40 : decode cX10_printLane 40 = .ok (.getfield 7, 3) := by decide +kernel
theorem dX10_printLane_43 : decode cX10_printLane 43 = .ok (.bipush 6, 2) := by decide +kernel
theorem dX10_printLane_45 : decode cX10_printLane 45 = .ok (.iaload, 1) := by decide +kernel
theorem dX10_printLane_46 : decode cX10_printLane 46 = .ok (.iload_n 1, 1) := by decide +kernel
theorem dX10_printLane_47 : decode cX10_printLane 47 = .ok (.imul, 1) := by decide +kernel
theorem dX10_printLane_48 : decode cX10_printLane 48 = .ok (.iload_n 2, 1) := by decide +kernel
theorem dX10_printLane_49 : decode cX10_printLane 49 = .ok (.iadd, 1) := by decide +kernel
theorem dX10_printLane_50 : decode cX10_printLane 50 = .ok (.invokevirtual 183, 3) := by decide +kernel
theorem dX10_printLane_53 : decode cX10_printLane 53 = .ok (.istore_n 3, 1) := by decide +kernel
theorem dX10_printLane_54 : decode cX10_printLane 54 = .ok (.iload_n 3, 1) := by decide +kernel
theorem dX10_printLane_55 : decode cX10_printLane 55 = .ok (.iconst (-1), 1) := by decide +kernel
theorem dX10_printLane_56 : decode cX10_printLane 56 = .ok (.if_icmp .ne 12, 3) := by decide +kernel
theorem dX10_printLane_59 : decode cX10_printLane 59 = .ok (.aload_n 0, 1) := by decide +kernel
theorem dX10_printLane_60 : decode cX10_printLane 60 = .ok (.bipush 35, 2) := by decide +kernel
theorem dX10_printLane_62 : decode cX10_printLane 62 = .ok (.invokevirtual 481, 3) := by decide +kernel
theorem dX10_printLane_65 : decode cX10_printLane 65 = .ok (.goto 8, 3) := by decide +kernel
theorem dX10_printLane_68 : decode cX10_printLane 68 = .ok (.aload_n 0, 1) := by decide +kernel
theorem dX10_printLane_69 : decode cX10_printLane 69 = .ok (.iload_n 3, 1) := by decide +kernel
theorem dX10_printLane_70 : decode cX10_printLane 70 = .ok (.invokevirtual 487, 3) := by decide +kernel
theorem dX10_printLane_73 : decode cX10_printLane 73 = .ok (.iinc 2 1, 3) := by decide +kernel
theorem dX10_printLane_76 : decode cX10_printLane 76 = .ok (.goto (-59), 3) := by decide +kernel
theorem dX10_printLane_79 : decode cX10_printLane 79 = .ok (.aload_n 0, 1) := by decide +kernel
theorem dX10_printLane_80 : decode cX10_printLane 80 = .ok (.getfield 478, 3) := by decide +kernel
theorem dX10_printLane_83 : decode cX10_printLane 83 = .ok (.ireturn, 1) := by decide +kernel
theorem dX10_printLoads_0 : decode cX10_printLoads 0 = .ok (.aload_n 0, 1) := by decide +kernel
theorem dX10_printLoads_1 : decode cX10_printLoads 1 = .ok (.iconst 0, 1) := by decide +kernel
theorem dX10_printLoads_2 : decode cX10_printLoads 2 = .ok (.putfield 54, 3) := by decide +kernel
theorem dX10_printLoads_5 : decode cX10_printLoads 5 = .ok (.aload_n 0, 1) := by decide +kernel
theorem dX10_printLoads_6 : decode cX10_printLoads 6 = .ok (.iconst 0, 1) := by decide +kernel
theorem dX10_printLoads_7 : decode cX10_printLoads 7 = .ok (.putfield 478, 3) := by decide +kernel
theorem dX10_printLoads_10 : decode cX10_printLoads 10 = .ok (.iconst 0, 1) := by decide +kernel
theorem dX10_printLoads_11 : decode cX10_printLoads 11 = .ok (.istore_n 1, 1) := by decide +kernel
theorem dX10_printLoads_12 : decode cX10_printLoads 12 = .ok (.iload_n 1, 1) := by decide +kernel
theorem dX10_printLoads_13 : decode cX10_printLoads 13 = .ok (.aload_n 0, 1) := by decide +kernel
theorem dX10_printLoads_14 : decode cX10_printLoads 14 = .ok (.getfield 7, 3) := by decide +kernel
theorem dX10_printLoads_17 : decode cX10_printLoads 17 = .ok (.bipush 9, 2) := by decide +kernel
theorem dX10_printLoads_19 : decode cX10_printLoads 19 = .ok (.iaload, 1) := by decide +kernel
theorem dX10_printLoads_20 : decode cX10_printLoads 20 = .ok (.if_icmp .ge 121, 3) := by decide +kernel
theorem dX10_printLoads_23 : decode cX10_printLoads 23 = .ok (.iload_n 1, 1) := by decide +kernel
theorem dX10_printLoads_24 : decode cX10_printLoads 24 = .ok (.ifCond .le 9, 3) := by decide +kernel
theorem dX10_printLoads_27 : decode cX10_printLoads 27 = .ok (.aload_n 0, 1) := by decide +kernel
theorem dX10_printLoads_28 : decode cX10_printLoads 28 = .ok (.bipush 32, 2) := by decide +kernel
theorem dX10_printLoads_30 : decode cX10_printLoads 30 = .ok (.invokevirtual 481, 3) := by decide +kernel
theorem dX10_printLoads_33 : decode cX10_printLoads 33 = .ok (.aload_n 0, 1) := by decide +kernel
theorem dX10_printLoads_34 : decode cX10_printLoads 34 = .ok (.aload_n 0, 1) := by decide +kernel
theorem dX10_printLoads_35 : decode cX10_printLoads 35 = .ok (.iload_n 1, 1) := by decide +kernel
theorem dX10_printLoads_36 : decode cX10_printLoads 36 = .ok (.iconst 0, 1) := by decide +kernel
theorem dX10_printLoads_37 : decode cX10_printLoads 37 = .ok (.invokevirtual 108, 3) := by decide +kernel
theorem dX10_printLoads_40 : decode cX10_printLoads 40 = .ok (.invokevirtual 487, 3) := by decide +kernel
theorem dX10_printLoads_43 : decode cX10_printLoads 43 = .ok (.aload_n 0, 1) := by decide +kernel
theorem dX10_printLoads_44 : decode cX10_printLoads 44 = .ok (.bipush 58, 2) := by decide +kernel
theorem dX10_printLoads_46 : decode cX10_printLoads 46 = .ok (.invokevirtual 481, 3) := by decide +kernel
theorem dX10_printLoads_49 : decode cX10_printLoads 49 = .ok (.aload_n 0, 1) := by decide +kernel
theorem dX10_printLoads_50 : decode cX10_printLoads 50 = .ok (.aload_n 0, 1) := by decide +kernel
theorem dX10_printLoads_51 : decode cX10_printLoads 51 = .ok (.iload_n 1, 1) := by decide +kernel
theorem dX10_printLoads_52 : decode cX10_printLoads 52 = .ok (.iconst 1, 1) := by decide +kernel
theorem dX10_printLoads_53 : decode cX10_printLoads 53 = .ok (.invokevirtual 108, 3) := by decide +kernel
theorem dX10_printLoads_56 : decode cX10_printLoads 56 = .ok (.invokevirtual 487, 3) := by decide +kernel
theorem dX10_printLoads_59 : decode cX10_printLoads 59 = .ok (.aload_n 0, 1) := by decide +kernel
theorem dX10_printLoads_60 : decode cX10_printLoads 60 = .ok (.bipush 45, 2) := by decide +kernel
theorem dX10_printLoads_62 : decode cX10_printLoads 62 = .ok (.invokevirtual 481, 3) := by decide +kernel
theorem dX10_printLoads_65 : decode cX10_printLoads 65 = .ok (.aload_n 0, 1) := by decide +kernel
theorem dX10_printLoads_66 : decode cX10_printLoads 66 = .ok (.aload_n 0, 1) := by decide +kernel
theorem dX10_printLoads_67 : decode cX10_printLoads 67 = .ok (.iload_n 1, 1) := by decide +kernel
theorem dX10_printLoads_68 : decode cX10_printLoads 68 = .ok (.iconst 2, 1) := by decide +kernel
theorem dX10_printLoads_69 : decode cX10_printLoads 69 = .ok (.invokevirtual 108, 3) := by decide +kernel
theorem dX10_printLoads_72 : decode cX10_printLoads 72 = .ok (.invokevirtual 487, 3) := by decide +kernel
theorem dX10_printLoads_75 : decode cX10_printLoads 75 = .ok (.aload_n 0, 1) := by decide +kernel
theorem dX10_printLoads_76 : decode cX10_printLoads 76 = .ok (.bipush 120, 2) := by decide +kernel
theorem dX10_printLoads_78 : decode cX10_printLoads 78 = .ok (.invokevirtual 481, 3) := by decide +kernel
theorem dX10_printLoads_81 : decode cX10_printLoads 81 = .ok (.aload_n 0, 1) := by decide +kernel
theorem dX10_printLoads_82 : decode cX10_printLoads 82 = .ok (.aload_n 0, 1) := by decide +kernel
theorem dX10_printLoads_83 : decode cX10_printLoads 83 = .ok (.iload_n 1, 1) := by decide +kernel
theorem dX10_printLoads_84 : decode cX10_printLoads 84 = .ok (.iconst 3, 1) := by decide +kernel
theorem dX10_printLoads_85 : decode cX10_printLoads 85 = .ok (.invokevirtual 108, 3) := by decide +kernel
theorem dX10_printLoads_88 : decode cX10_printLoads 88 = .ok (.invokevirtual 487, 3) := by decide +kernel
theorem dX10_printLoads_91 : decode cX10_printLoads 91 = .ok (.aload_n 0, 1) := by decide +kernel
theorem dX10_printLoads_92 : decode cX10_printLoads 92 = .ok (.bipush 42, 2) := by decide +kernel
theorem dX10_printLoads_94 : decode cX10_printLoads 94 = .ok (.invokevirtual 481, 3) := by decide +kernel
theorem dX10_printLoads_97 : decode cX10_printLoads 97 = .ok (.aload_n 0, 1) := by decide +kernel
theorem dX10_printLoads_98 : decode cX10_printLoads 98 = .ok (.aload_n 0, 1) := by decide +kernel
theorem dX10_printLoads_99 : decode cX10_printLoads 99 = .ok (.iload_n 1, 1) := by decide +kernel
theorem dX10_printLoads_100 : decode cX10_printLoads 100 = .ok (.iconst 4, 1) := by decide +kernel
theorem dX10_printLoads_101 : decode cX10_printLoads 101 = .ok (.invokevirtual 108, 3) := by decide +kernel
theorem dX10_printLoads_104 : decode cX10_printLoads 104 = .ok (.invokevirtual 487, 3) := by decide +kernel
theorem dX10_printLoads_107 : decode cX10_printLoads 107 = .ok (.aload_n 0, 1) := by decide +kernel
theorem dX10_printLoads_108 : decode cX10_printLoads 108 = .ok (.iload_n 1, 1) := by decide +kernel
theorem dX10_printLoads_109 : decode cX10_printLoads 109 = .ok (.iconst 5, 1) := by decide +kernel
theorem dX10_printLoads_110 : decode cX10_printLoads 110 = .ok (.invokevirtual 108, 3) := by decide +kernel
theorem dX10_printLoads_113 : decode cX10_printLoads 113 = .ok (.ifCond .ne 6, 3) := by decide +kernel
theorem dX10_printLoads_116 : decode cX10_printLoads 116 = .ok (.goto 19, 3) := by decide +kernel
theorem dX10_printLoads_119 : decode cX10_printLoads 119 = .ok (.aload_n 0, 1) := by decide +kernel
theorem dX10_printLoads_120 : decode cX10_printLoads 120 = .ok (.bipush 43, 2) := by decide +kernel
theorem dX10_printLoads_122 : decode cX10_printLoads 122 = .ok (.invokevirtual 481, 3) := by decide +kernel
theorem dX10_printLoads_125 : decode cX10_printLoads 125 = .ok (.aload_n 0, 1) := by decide +kernel
theorem dX10_printLoads_126 : decode cX10_printLoads 126 = .ok (.aload_n 0, 1) := by decide +kernel
theorem dX10_printLoads_127 : decode cX10_printLoads 127 = .ok (.iload_n 1, 1) := by decide +kernel
theorem dX10_printLoads_128 : decode cX10_printLoads 128 = .ok (.iconst 5, 1) := by decide +kernel
theorem dX10_printLoads_129 : decode cX10_printLoads 129 = .ok (.invokevirtual 108, 3) := by decide +kernel
theorem dX10_printLoads_132 : decode cX10_printLoads 132 = .ok (.invokevirtual 487, 3) := by decide +kernel
theorem dX10_printLoads_135 : decode cX10_printLoads 135 = .ok (.iinc 1 1, 3) := by decide +kernel
theorem dX10_printLoads_138 : decode cX10_printLoads 138 = .ok (.goto (-126), 3) := by decide +kernel
theorem dX10_printLoads_141 : decode cX10_printLoads 141 = .ok (.aload_n 0, 1) := by decide +kernel
theorem dX10_printLoads_142 : decode cX10_printLoads 142 = .ok (.getfield 7, 3) := by decide +kernel
theorem dX10_printLoads_145 : decode cX10_printLoads 145 = .ok (.bipush 9, 2) := by decide +kernel
theorem dX10_printLoads_147 : decode cX10_printLoads 147 = .ok (.iaload, 1) := by decide +kernel
theorem dX10_printLoads_148 : decode cX10_printLoads 148 = .ok (.ifCond .ne 9, 3) := by decide +kernel
theorem dX10_printLoads_151 : decode cX10_printLoads 151 = .ok (.aload_n 0, 1) := by decide +kernel
theorem dX10_printLoads_152 : decode cX10_printLoads 152 = .ok (.bipush 45, 2) := by decide +kernel
theorem dX10_printLoads_154 : decode cX10_printLoads 154 = .ok (.invokevirtual 481, 3) := by decide +kernel
theorem dX10_printLoads_157 : decode cX10_printLoads 157 = .ok (.aload_n 0, 1) := by decide +kernel
theorem dX10_printLoads_158 : decode cX10_printLoads 158 = .ok (.getfield 478, 3) := by decide +kernel
theorem dX10_printLoads_161 : decode cX10_printLoads 161 = .ok (.ireturn, 1) := by decide +kernel
theorem dX10_outputByte_0 : decode cX10_outputByte 0 = .ok (.aload_n 0, 1) := by decide +kernel
theorem dX10_outputByte_1 : decode cX10_outputByte 1 = .ok (.iconst 0, 1) := by decide +kernel
theorem dX10_outputByte_2 : decode cX10_outputByte 2 = .ok (.putfield 54, 3) := by decide +kernel
theorem dX10_outputByte_5 : decode cX10_outputByte 5 = .ok (.iload_n 1, 1) := by decide +kernel
theorem dX10_outputByte_6 : decode cX10_outputByte 6 = .ok (.i2l, 1) := by decide +kernel
theorem dX10_outputByte_7 : decode cX10_outputByte 7 = .ok (.lconst 0, 1) := by decide +kernel
theorem dX10_outputByte_8 : decode cX10_outputByte 8 = .ok (.aload_n 0, 1) := by decide +kernel
theorem dX10_outputByte_9 : decode cX10_outputByte 9 = .ok (.getfield 478, 3) := by decide +kernel
theorem dX10_outputByte_12 : decode cX10_outputByte 12 = .ok (.iconst 1, 1) := by decide +kernel
theorem dX10_outputByte_13 : decode cX10_outputByte 13 = .ok (.isub, 1) := by decide +kernel
theorem dX10_outputByte_14 : decode cX10_outputByte 14 = .ok (.i2l, 1) := by decide +kernel
theorem dX10_outputByte_15 : decode cX10_outputByte 15 = .ok (.invokestatic 129, 3) := by decide +kernel
theorem dX10_outputByte_18 : decode cX10_outputByte 18 = .ok (.ifCond .eq 12, 3) := by decide +kernel
theorem dX10_outputByte_21 : decode cX10_outputByte 21 = .ok (.aload_n 0, 1) := by decide +kernel
theorem dX10_outputByte_22 : decode cX10_outputByte 22 = .ok (.getfield 48, 3) := by decide +kernel
theorem dX10_outputByte_25 : decode cX10_outputByte 25 = .ok (.iload_n 1, 1) := by decide +kernel
theorem dX10_outputByte_26 : decode cX10_outputByte 26 = .ok (.iaload, 1) := by decide +kernel
theorem dX10_outputByte_27 : decode cX10_outputByte 27 = .ok (.goto 4, 3) := by decide +kernel
theorem dX10_outputByte_30 : decode cX10_outputByte 30 = .ok (.iconst (-1), 1) := by decide +kernel
theorem dX10_outputByte_31 : decode cX10_outputByte 31 = .ok (.ireturn, 1) := by decide +kernel
theorem dX10_saveState_0 : decode cX10_saveState 0 = .ok (.aload_n 0, 1) := by decide +kernel
theorem dX10_saveState_1 : decode cX10_saveState 1 = .ok (.iconst 0, 1) := by decide +kernel
theorem dX10_saveState_2 : decode cX10_saveState 2 = .ok (.putfield 54, 3) := by decide +kernel
theorem dX10_saveState_5 : decode cX10_saveState 5 = .ok (.aload_n 0, 1) := by decide +kernel
theorem dX10_saveState_6 : decode cX10_saveState 6 = .ok (.getfield 7, 3) := by decide +kernel
theorem dX10_saveState_9 : decode cX10_saveState 9 = .ok (.iconst 0, 1) := by decide +kernel
theorem dX10_saveState_10 : decode cX10_saveState 10 = .ok (.aload_n 0, 1) := by decide +kernel
theorem dX10_saveState_11 : decode cX10_saveState 11 = .ok (.getfield 16, 3) := by decide +kernel
theorem dX10_saveState_14 : decode cX10_saveState 14 = .ok (.iconst 0, 1) := by decide +kernel
theorem dX10_saveState_15 : decode cX10_saveState 15 = .ok (.sipush 400, 3) := by decide +kernel
theorem dX10_saveState_18 : decode cX10_saveState 18 = .ok (.invokestatic 60, 3) := by decide +kernel
theorem dX10_saveState_21 : decode cX10_saveState 21 = .ok (.aload_n 0, 1) := by decide +kernel
theorem dX10_saveState_22 : decode cX10_saveState 22 = .ok (.getfield 22, 3) := by decide +kernel
theorem dX10_saveState_25 : decode cX10_saveState 25 = .ok (.iconst 0, 1) := by decide +kernel
theorem dX10_saveState_26 : decode cX10_saveState 26 = .ok (.aload_n 0, 1) := by decide +kernel
theorem dX10_saveState_27 : decode cX10_saveState 27 = .ok (.getfield 26, 3) := by decide +kernel
theorem dX10_saveState_30 : decode cX10_saveState 30 = .ok (.iconst 0, 1) := by decide +kernel
theorem dX10_saveState_31 : decode cX10_saveState 31 = .ok (.bipush 64, 2) := by decide +kernel
theorem dX10_saveState_33 : decode cX10_saveState 33 = .ok (.invokestatic 64, 3) := by decide +kernel
theorem dX10_saveState_36 : decode cX10_saveState 36 = .ok (.aload_n 0, 1) := by decide +kernel
theorem dX10_saveState_37 : decode cX10_saveState 37 = .ok (.iconst 1, 1) := by decide +kernel
theorem dX10_saveState_38 : decode cX10_saveState 38 = .ok (.putfield 376, 3) := by decide +kernel
theorem dX10_saveState_41 : decode cX10_saveState 41 = .ok (.aload_n 0, 1) := by decide +kernel
theorem dX10_saveState_42 : decode cX10_saveState 42 = .ok (.getfield 7, 3) := by decide +kernel
theorem dX10_saveState_45 : decode cX10_saveState 45 = .ok (.bipush 10, 2) := by decide +kernel
theorem dX10_saveState_47 : decode cX10_saveState 47 = .ok (.iaload, 1) := by decide +kernel
theorem dX10_saveState_48 : decode cX10_saveState 48 = .ok (.ireturn, 1) := by decide +kernel
theorem dX10_restoreState_0 : decode cX10_restoreState 0 = .ok (.aload_n 0, 1) := by decide +kernel
theorem dX10_restoreState_1 : decode cX10_restoreState 1 = .ok (.iconst 0, 1) := by decide +kernel
theorem dX10_restoreState_2 : decode cX10_restoreState 2 = .ok (.putfield 54, 3) := by decide +kernel
theorem dX10_restoreState_5 : decode cX10_restoreState 5 = .ok (.aload_n 0, 1) := by decide +kernel
theorem dX10_restoreState_6 : decode cX10_restoreState 6 = .ok (.aload_n 0, 1) := by decide +kernel
theorem dX10_restoreState_7 : decode cX10_restoreState 7 = .ok (.getfield 376, 3) := by decide +kernel
theorem dX10_restoreState_10 : decode cX10_restoreState 10 = .ok (.ifCond .ne 7, 3) := by decide +kernel
theorem dX10_restoreState_13 : decode cX10_restoreState 13 = .ok (.iconst 1, 1) := by decide +kernel
theorem dX10_restoreState_14 : decode cX10_restoreState 14 = .ok (.goto 4, 3) := by decide +kernel
theorem dX10_restoreState_17 : decode cX10_restoreState 17 = .ok (.iconst 0, 1) := by decide +kernel
theorem dX10_restoreState_18 : decode cX10_restoreState 18 = .ok (.iconst 1, 1) := by decide +kernel
theorem dX10_restoreState_19 : decode cX10_restoreState 19 = .ok (.invokevirtual 380, 3) := by decide +kernel
theorem dX10_restoreState_22 : decode cX10_restoreState 22 = .ok (.ifCond .eq 5, 3) := by decide +kernel
theorem dX10_restoreState_25 : decode cX10_restoreState 25 = .ok (.iconst 0, 1) := by decide +kernel
theorem dX10_restoreState_26 : decode cX10_restoreState 26 = .ok (.ireturn, 1) := by decide +kernel
theorem dX10_restoreState_27 : decode cX10_restoreState 27 = .ok (.aload_n 0, 1) := by decide +kernel
theorem dX10_restoreState_28 : decode cX10_restoreState 28 = .ok (.getfield 16, 3) := by decide +kernel
theorem dX10_restoreState_31 : decode cX10_restoreState 31 = .ok (.iconst 0, 1) := by decide +kernel
theorem dX10_restoreState_32 : decode cX10_restoreState 32 = .ok (.aload_n 0, 1) := by decide +kernel
theorem dX10_restoreState_33 : decode cX10_restoreState 33 = .ok (.getfield 7, 3) := by decide +kernel
theorem dX10_restoreState_36 : decode cX10_restoreState 36 = .ok (.iconst 0, 1) := by decide +kernel
theorem dX10_restoreState_37 : decode cX10_restoreState 37 = .ok (.sipush 400, 3) := by decide +kernel
theorem dX10_restoreState_40 : decode cX10_restoreState 40 = .ok (.invokestatic 60, 3) := by decide +kernel
theorem dX10_restoreState_43 : decode cX10_restoreState 43 = .ok (.aload_n 0, 1) := by decide +kernel
theorem dX10_restoreState_44 : decode cX10_restoreState 44 = .ok (.getfield 26, 3) := by decide +kernel
theorem dX10_restoreState_47 : decode cX10_restoreState 47 = .ok (.iconst 0, 1) := by decide +kernel
theorem dX10_restoreState_48 : decode cX10_restoreState 48 = .ok (.aload_n 0, 1) := by decide +kernel
theorem dX10_restoreState_49 : decode cX10_restoreState 49 = .ok (.getfield 22, 3) := by decide +kernel
theorem dX10_restoreState_52 : decode cX10_restoreState 52 = .ok (.iconst 0, 1) := by decide +kernel
theorem dX10_restoreState_53 : decode cX10_restoreState 53 = .ok (.bipush 64, 2) := by decide +kernel
theorem dX10_restoreState_55 : decode cX10_restoreState 55 = .ok (.invokestatic 64, 3) := by decide +kernel
theorem dX10_restoreState_58 : decode cX10_restoreState 58 = .ok (.aload_n 0, 1) := by decide +kernel
theorem dX10_restoreState_59 : decode cX10_restoreState 59 = .ok (.iconst 0, 1) := by decide +kernel
theorem dX10_restoreState_60 : decode cX10_restoreState 60 = .ok (.putfield 57, 3) := by decide +kernel
theorem dX10_restoreState_63 : decode cX10_restoreState 63 = .ok (.aload_n 0, 1) := by decide +kernel
theorem dX10_restoreState_64 : decode cX10_restoreState 64 = .ok (.getfield 7, 3) := by decide +kernel
theorem dX10_restoreState_67 : decode cX10_restoreState 67 = .ok (.bipush 10, 2) := by decide +kernel
theorem dX10_restoreState_69 : decode cX10_restoreState 69 = .ok (.iaload, 1) := by decide +kernel
theorem dX10_restoreState_70 : decode cX10_restoreState 70 = .ok (.ireturn, 1) := by decide +kernel
