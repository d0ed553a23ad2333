theorem dX0_init_0 : decode cX0_init 0 = .ok (.aload_n 0, 1) := by decide +kernel
theorem dX0_init_1 : decode cX0_init 1 = .ok (.invokespecial 3, 3) := by decide +kernel
theorem dX0_init_4 : decode cX0_init 4 = .ok (.aload_n 0, 1) := by decide +kernel
theorem dX0_init_5 : decode cX0_init 5 = .ok (.bipush 12, 2) := by decide +kernel
theorem dX0_init_7 : decode cX0_init 7 = .ok (.newarray .int, 2) := by decide +kernel
theorem dX0_init_9 : decode cX0_init 9 = .ok (.putfield 9, 3) := by decide +kernel
theorem dX0_init_12 : decode cX0_init 12 = .ok (.aload_n 0, 1) := by decide +kernel
theorem dX0_init_13 : decode cX0_init 13 = .ok (.bipush 13, 2) := by decide +kernel
theorem dX0_init_15 : decode cX0_init 15 = .ok (.newarray .int, 2) := by decide +kernel
theorem dX0_init_17 : decode cX0_init 17 = .ok (.putfield 15, 3) := by decide +kernel
theorem dX0_init_20 : decode cX0_init 20 = .ok (.aload_n 0, 1) := by decide +kernel
theorem dX0_init_21 : decode cX0_init 21 = .ok (.bipush 52, 2) := by decide +kernel
theorem dX0_init_23 : decode cX0_init 23 = .ok (.newarray .int, 2) := by decide +kernel
theorem dX0_init_25 : decode cX0_init 25 = .ok (.putfield 18, 3) := by decide +kernel
theorem dX0_init_28 : decode cX0_init 28 = .ok (.aload_n 0, 1) := by decide +kernel
theorem dX0_init_29 : decode cX0_init 29 = .ok (.bipush 52, 2) := by decide +kernel
theorem dX0_init_31 : decode cX0_init 31 = .ok (.newarray .int, 2) := by decide +kernel
theorem dX0_init_33 : decode cX0_init 33 = .ok (.putfield 21, 3) := by decide +kernel
theorem dX0_init_36 : decode cX0_init 36 = .ok (.return_, 1) := by decide +kernel
theorem dX0_reset_0 : decode cX0_reset 0 = .ok (.aload_n 0, 1) := by decide +kernel
theorem dX0_reset_1 : decode cX0_reset 1 = .ok (.iconst 0, 1) := by decide +kernel
theorem dX0_reset_2 : decode cX0_reset 2 = .ok (.putfield 24, 3) := by decide +kernel
theorem dX0_reset_5 : decode cX0_reset 5 = .ok (.aload_n 0, 1) := by decide +kernel
theorem dX0_reset_6 : decode cX0_reset 6 = .ok (.getfield 15, 3) := by decide +kernel
theorem dX0_reset_9 : decode cX0_reset 9 = .ok (.bipush 12, 2) := by decide +kernel
theorem dX0_reset_11 : decode cX0_reset 11 = .ok (.iconst 0, 1) := by decide +kernel
theorem dX0_reset_12 : decode cX0_reset 12 = .ok (.iastore, 1) := by decide +kernel
theorem dX0_reset_13 : decode cX0_reset 13 = .ok (.aload_n 0, 1) := by decide +kernel
theorem dX0_reset_14 : decode cX0_reset 14 = .ok (.bipush 12, 2) := by decide +kernel
theorem dX0_reset_16 : decode cX0_reset 16 = .ok (.iconst 0, 1) := by decide +kernel
theorem dX0_reset_17 : decode cX0_reset 17 = .ok (.bipush 100, 2) := by decide +kernel
theorem dX0_reset_19 : decode cX0_reset 19 = .ok (.invokevirtual 28, 3) := by decide +kernel
theorem dX0_reset_22 : decode cX0_reset 22 = .ok (.aload_n 0, 1) := by decide +kernel
theorem dX0_reset_23 : decode cX0_reset 23 = .ok (.bipush 12, 2) := by decide +kernel
theorem dX0_reset_25 : decode cX0_reset 25 = .ok (.iconst 2, 1) := by decide +kernel
theorem dX0_reset_26 : decode cX0_reset 26 = .ok (.sipush 200, 3) := by decide +kernel
theorem dX0_reset_29 : decode cX0_reset 29 = .ok (.invokevirtual 28, 3) := by decide +kernel
theorem dX0_reset_32 : decode cX0_reset 32 = .ok (.return_, 1) := by decide +kernel
theorem dX0_copyFrom_0 : decode cX0_copyFrom 0 = .ok (.aload_n 0, 1) := by decide +kernel
theorem dX0_copyFrom_1 : decode cX0_copyFrom 1 = .ok (.aload_n 1, 1) := by decide +kernel
theorem dX0_copyFrom_2 : decode cX0_copyFrom 2 = .ok (.getfield 24, 3) := by decide +kernel
theorem dX0_copyFrom_5 : decode cX0_copyFrom 5 = .ok (.putfield 24, 3) := by decide +kernel
theorem dX0_copyFrom_8 : decode cX0_copyFrom 8 = .ok (.aload_n 1, 1) := by decide +kernel
theorem dX0_copyFrom_9 : decode cX0_copyFrom 9 = .ok (.getfield 9, 3) := by decide +kernel
theorem dX0_copyFrom_12 : decode cX0_copyFrom 12 = .ok (.iconst 0, 1) := by decide +kernel
theorem dX0_copyFrom_13 : decode cX0_copyFrom 13 = .ok (.aload_n 0, 1) := by decide +kernel
theorem dX0_copyFrom_14 : decode cX0_copyFrom 14 = .ok (.getfield 9, 3) := by decide +kernel
theorem dX0_copyFrom_17 : decode cX0_copyFrom 17 = .ok (.iconst 0, 1) := by decide +kernel
theorem dX0_copyFrom_18 : decode cX0_copyFrom 18 = .ok (.aload_n 0, 1) := by decide +kernel
theorem dX0_copyFrom_19 : decode cX0_copyFrom 19 = .ok (.getfield 9, 3) := by decide +kernel
theorem dX0_copyFrom_22 : decode cX0_copyFrom 22 = .ok (.arraylength, 1) := by decide +kernel
theorem dX0_copyFrom_23 : decode cX0_copyFrom 23 = .ok (.invokestatic 32, 3) := by decide +kernel
theorem dX0_copyFrom_26 : decode cX0_copyFrom 26 = .ok (.aload_n 1, 1) := by decide +kernel
theorem dX0_copyFrom_27 : decode cX0_copyFrom 27 = .ok (.getfield 15, 3) := by decide +kernel
theorem dX0_copyFrom_30 : decode cX0_copyFrom 30 = .ok (.iconst 0, 1) := by decide +kernel
theorem dX0_copyFrom_31 : decode cX0_copyFrom 31 = .ok (.aload_n 0, 1) := by decide +kernel
theorem dX0_copyFrom_32 : decode cX0_copyFrom 32 = .ok (.getfield 15, 3) := by decide +kernel
theorem dX0_copyFrom_35 : decode cX0_copyFrom 35 = .ok (.iconst 0, 1) := by decide +kernel
theorem dX0_copyFrom_36 : decode cX0_copyFrom 36 = .ok (.aload_n 0, 1) := by decide +kernel
theorem dX0_copyFrom_37 : decode cX0_copyFrom 37 = .ok (.getfield 15, 3) := by decide +kernel
theorem dX0_copyFrom_40 : decode cX0_copyFrom 40 = .ok (.arraylength, 1) := by decide +kernel
theorem dX0_copyFrom_41 : decode cX0_copyFrom 41 = .ok (.invokestatic 32, 3) := by decide +kernel
theorem dX0_copyFrom_44 : decode cX0_copyFrom 44 = .ok (.aload_n 1, 1) := by decide +kernel
theorem dX0_copyFrom_45 : decode cX0_copyFrom 45 = .ok (.getfield 18, 3) := by decide +kernel
theorem dX0_copyFrom_48 : decode cX0_copyFrom 48 = .ok (.iconst 0, 1) := by decide +kernel
theorem dX0_copyFrom_49 : decode cX0_copyFrom 49 = .ok (.aload_n 0, 1) := by decide +kernel
theorem dX0_copyFrom_50 : decode cX0_copyFrom 50 = .ok (.getfield 18, 3) := by decide +kernel
theorem dX0_copyFrom_53 : decode cX0_copyFrom 53 = .ok (.iconst 0, 1) := by decide +kernel
theorem dX0_copyFrom_54 : decode cX0_copyFrom 54 = .ok (.aload_n 0, 1) := by decide +kernel
theorem dX0_copyFrom_55 : decode cX0_copyFrom 55 = .ok (.getfield 18, 3) := by decide +kernel
theorem dX0_copyFrom_58 : decode cX0_copyFrom 58 = .ok (.arraylength, 1) := by decide +kernel
theorem dX0_copyFrom_59 : decode cX0_copyFrom 59 = .ok (.invokestatic 32, 3) := by decide +kernel
theorem dX0_copyFrom_62 : decode cX0_copyFrom 62 = .ok (.aload_n 1, 1) := by decide +kernel
theorem dX0_copyFrom_63 : decode cX0_copyFrom 63 = .ok (.getfield 21, 3) := by decide +kernel
theorem dX0_copyFrom_66 : decode cX0_copyFrom 66 = .ok (.iconst 0, 1) := by decide +kernel
theorem dX0_copyFrom_67 : decode cX0_copyFrom 67 = .ok (.aload_n 0, 1) := by decide +kernel
theorem dX0_copyFrom_68 : decode cX0_copyFrom 68 = .ok (.getfield 21, 3) := by decide +kernel
theorem dX0_copyFrom_71 : decode cX0_copyFrom 71 = .ok (.iconst 0, 1) := by decide +kernel
theorem dX0_copyFrom_72 : decode cX0_copyFrom 72 = .ok (.aload_n 0, 1) := by decide +kernel
theorem dX0_copyFrom_73 : decode cX0_copyFrom 73 = .ok (.getfield 21, 3) := by decide +kernel
theorem dX0_copyFrom_76 : decode cX0_copyFrom 76 = .ok (.arraylength, 1) := by decide +kernel
theorem dX0_copyFrom_77 : decode cX0_copyFrom 77 = .ok (.invokestatic 32, 3) := by decide +kernel
theorem dX0_copyFrom_80 : decode cX0_copyFrom 80 = .ok (.return_, 1) := by decide +kernel
theorem dX0_coreAt_0 : decode cX0_coreAt 0 = .ok (.iconst 0, 1) := by decide +kernel
theorem dX0_coreAt_1 : decode cX0_coreAt 1 = .ok (.istore_n 2, 1) := by decide +kernel
theorem dX0_coreAt_2 : decode cX0_coreAt 2 = .ok (.iload_n 2, 1) := by decide +kernel
theorem dX0_coreAt_3 : decode cX0_coreAt 3 = .ok (.aload_n 0, 1) := by decide +kernel
theorem dX0_coreAt_4 : decode cX0_coreAt 4 = .ok (.getfield 24, 3) := by decide +kernel
theorem dX0_coreAt_7 : decode cX0_coreAt 7 = .ok (.if_icmp .ge 21, 3) := by decide +kernel
theorem dX0_coreAt_10 : decode cX0_coreAt 10 = .ok (.aload_n 0, 1) := by decide +kernel
theorem dX0_coreAt_11 : decode cX0_coreAt 11 = .ok (.getfield 9, 3) := by decide +kernel
theorem dX0_coreAt_14 : decode cX0_coreAt 14 = .ok (.iload_n 2, 1) := by decide +kernel
theorem dX0_coreAt_15 : decode cX0_coreAt 15 = .ok (.iaload, 1) := by decide +kernel
theorem dX0_coreAt_16 : decode cX0_coreAt 16 = .ok (.iload_n 1, 1) := by decide +kernel
theorem dX0_coreAt_17 : decode cX0_coreAt 17 = .ok (.if_icmp .ne 5, 3) := by decide +kernel
theorem dX0_coreAt_20 : decode cX0_coreAt 20 = .ok (.iload_n 2, 1) := by decide +kernel
theorem dX0_coreAt_21 : decode cX0_coreAt 21 = .ok (.ireturn, 1) := by decide +kernel
theorem dX0_coreAt_22 : decode cX0_coreAt 22 = .ok (.iinc 2 1, 3) := by decide +kernel
theorem dX0_coreAt_25 : decode cX0_coreAt 25 = .ok (.goto (-23), 3) := by decide +kernel
theorem dX0_coreAt_28 : decode cX0_coreAt 28 = .ok (.iconst (-1), 1) := by decide +kernel
theorem dX0_coreAt_29 : decode cX0_coreAt 29 = .ok (.ireturn, 1) := by decide +kernel
theorem dX0_insertAt_0 : decode cX0_insertAt 0 = .ok (.iconst 0, 1) := by decide +kernel
theorem dX0_insertAt_1 : decode cX0_insertAt 1 = .ok (.istore_n 2, 1) := by decide +kernel
theorem dX0_insertAt_2 : decode cX0_insertAt 2 = .ok (.iload_n 2, 1) := by decide +kernel
theorem dX0_insertAt_3 : decode cX0_insertAt 3 = .ok (.aload_n 0, 1) := by decide +kernel
theorem dX0_insertAt_4 : decode cX0_insertAt 4 = .ok (.getfield 24, 3) := by decide +kernel
theorem dX0_insertAt_7 : decode cX0_insertAt 7 = .ok (.if_icmp .ge 19, 3) := by decide +kernel
theorem dX0_insertAt_10 : decode cX0_insertAt 10 = .ok (.aload_n 0, 1) := by decide +kernel
theorem dX0_insertAt_11 : decode cX0_insertAt 11 = .ok (.getfield 9, 3) := by decide +kernel
theorem dX0_insertAt_14 : decode cX0_insertAt 14 = .ok (.iload_n 2, 1) := by decide +kernel
theorem dX0_insertAt_15 : decode cX0_insertAt 15 = .ok (.iaload, 1) := by decide +kernel
theorem dX0_insertAt_16 : decode cX0_insertAt 16 = .ok (.iload_n 1, 1) := by decide +kernel
theorem dX0_insertAt_17 : decode cX0_insertAt 17 = .ok (.if_icmp .ge 9, 3) := by decide +kernel
theorem dX0_insertAt_20 : decode cX0_insertAt 20 = .ok (.iinc 2 1, 3) := by decide +kernel
theorem dX0_insertAt_23 : decode cX0_insertAt 23 = .ok (.goto (-21), 3) := by decide +kernel
theorem dX0_insertAt_26 : decode cX0_insertAt 26 = .ok (.aload_n 0, 1) := by decide +kernel
theorem dX0_insertAt_27 : decode cX0_insertAt 27 = .ok (.iload_n 2, 1) := by decide +kernel
theorem dX0_insertAt_28 : decode cX0_insertAt 28 = .ok (.iload_n 2, 1) := by decide +kernel
theorem dX0_insertAt_29 : decode cX0_insertAt 29 = .ok (.iconst 1, 1) := by decide +kernel
theorem dX0_insertAt_30 : decode cX0_insertAt 30 = .ok (.iadd, 1) := by decide +kernel
theorem dX0_insertAt_31 : decode cX0_insertAt 31 = .ok (.aload_n 0, 1) := by decide +kernel
theorem dX0_insertAt_32 : decode cX0_insertAt 32 = .ok (.getfield 24, 3) := by decide +kernel
theorem dX0_insertAt_35 : decode cX0_insertAt 35 = .ok (.iload_n 2, 1) := by decide +kernel
theorem dX0_insertAt_36 : decode cX0_insertAt 36 = .ok (.isub, 1) := by decide +kernel
theorem dX0_insertAt_37 : decode cX0_insertAt 37 = .ok (.invokevirtual 38, 3) := by decide +kernel
theorem dX0_insertAt_40 : decode cX0_insertAt 40 = .ok (.aload_n 0, 1) := by decide +kernel
theorem dX0_insertAt_41 : decode cX0_insertAt 41 = .ok (.getfield 9, 3) := by decide +kernel
theorem dX0_insertAt_44 : decode cX0_insertAt 44 = .ok (.iload_n 2, 1) := by decide +kernel
theorem dX0_insertAt_45 : decode cX0_insertAt 45 = .ok (.iload_n 1, 1) := by decide +kernel
theorem dX0_insertAt_46 : decode cX0_insertAt 46 = .ok (.iastore, 1) := by decide +kernel
theorem dX0_insertAt_47 : decode cX0_insertAt 47 = .ok (.aload_n 0, 1) := by decide +kernel
theorem dX0_insertAt_48 : decode cX0_insertAt 48 = .ok (.getfield 15, 3) := by decide +kernel
theorem dX0_insertAt_51 : decode cX0_insertAt 51 = .ok (.iload_n 2, 1) := by decide +kernel
theorem dX0_insertAt_52 : decode cX0_insertAt 52 = .ok (.iconst 0, 1) := by decide +kernel
theorem dX0_insertAt_53 : decode cX0_insertAt 53 = .ok (.iastore, 1) := by decide +kernel
theorem dX0_insertAt_54 : decode cX0_insertAt 54 = .ok (.aload_n 0, 1) := by decide +kernel
theorem dX0_insertAt_55 : decode cX0_insertAt 55 = .ok (.dup, 1) := by decide +kernel
theorem dX0_insertAt_56 : decode cX0_insertAt 56 = .ok (.getfield 24, 3) := by decide +kernel
theorem dX0_insertAt_59 : decode cX0_insertAt 59 = .ok (.iconst 1, 1) := by decide +kernel
theorem dX0_insertAt_60 : decode cX0_insertAt 60 = .ok (.iadd, 1) := by decide +kernel
theorem dX0_insertAt_61 : decode cX0_insertAt 61 = .ok (.putfield 24, 3) := by decide +kernel
theorem dX0_insertAt_64 : decode cX0_insertAt 64 = .ok (.iload_n 2, 1) := by decide +kernel
theorem dX0_insertAt_65 : decode cX0_insertAt 65 = .ok (.ireturn, 1) := by decide +kernel
theorem dX0_remove_0 : decode cX0_remove 0 = .ok (.aload_n 0, 1) := by decide +kernel
theorem dX0_remove_1 : decode cX0_remove 1 = .ok (.iload_n 1, 1) := by decide +kernel
theorem dX0_remove_2 : decode cX0_remove 2 = .ok (.iconst 1, 1) := by decide +kernel
theorem dX0_remove_3 : decode cX0_remove 3 = .ok (.iadd, 1) := by decide +kernel
theorem dX0_remove_4 : decode cX0_remove 4 = .ok (.iload_n 1, 1) := by decide +kernel
theorem dX0_remove_5 : decode cX0_remove 5 = .ok (.aload_n 0, 1) := by decide +kernel
theorem dX0_remove_6 : decode cX0_remove 6 = .ok (.getfield 24, 3) := by decide +kernel
theorem dX0_remove_9 : decode cX0_remove 9 = .ok (.iload_n 1, 1) := by decide +kernel
theorem dX0_remove_10 : decode cX0_remove 10 = .ok (.isub, 1) := by decide +kernel
theorem dX0_remove_11 : decode cX0_remove 11 = .ok (.iconst 1, 1) := by decide +kernel
theorem dX0_remove_12 : decode cX0_remove 12 = .ok (.isub, 1) := by decide +kernel
theorem dX0_remove_13 : decode cX0_remove 13 = .ok (.invokevirtual 38, 3) := by decide +kernel
theorem dX0_remove_16 : decode cX0_remove 16 = .ok (.aload_n 0, 1) := by decide +kernel
theorem dX0_remove_17 : decode cX0_remove 17 = .ok (.dup, 1) := by decide +kernel
theorem dX0_remove_18 : decode cX0_remove 18 = .ok (.getfield 24, 3) := by decide +kernel
theorem dX0_remove_21 : decode cX0_remove 21 = .ok (.iconst 1, 1) := by decide +kernel
theorem dX0_remove_22 : decode cX0_remove 22 = .ok (.isub, 1) := by decide +kernel
theorem dX0_remove_23 : decode cX0_remove 23 = .ok (.putfield 24, 3) := by decide +kernel
theorem dX0_remove_26 : decode cX0_remove 26 = .ok (.return_, 1) := by decide +kernel
theorem dX0_moveRows_0 : decode cX0_moveRows 0 = .ok (.aload_n 0, 1) := by decide +kernel
theorem dX0_moveRows_1 : decode cX0_moveRows 1 = .ok (.getfield 9, 3) := by decide +kernel
theorem dX0_moveRows_4 : decode cX0_moveRows 4 = .ok (.iload_n 1, 1) := by decide +kernel
theorem dX0_moveRows_5 : decode cX0_moveRows 5 = .ok (.aload_n 0, 1) := by decide +kernel
theorem dX0_moveRows_6 : decode cX0_moveRows 6 = .ok (.getfield 9, 3) := by decide +kernel
theorem dX0_moveRows_9 : decode cX0_moveRows 9 = .ok (.iload_n 2, 1) := by decide +kernel
theorem dX0_moveRows_10 : decode cX0_moveRows 10 = .ok (.iload_n 3, 1) := by decide +kernel
theorem dX0_moveRows_11 : decode cX0_moveRows 11 = .ok (.invokestatic 32, 3) := by decide +kernel
theorem dX0_moveRows_14 : decode cX0_moveRows 14 = .ok (.aload_n 0, 1) := by decide +kernel
theorem dX0_moveRows_15 : decode cX0_moveRows 15 = .ok (.getfield 15, 3) := by decide +kernel
theorem dX0_moveRows_18 : decode cX0_moveRows 18 = .ok (.iload_n 1, 1) := by decide +kernel
theorem dX0_moveRows_19 : decode cX0_moveRows 19 = .ok (.aload_n 0, 1) := by decide +kernel
theorem dX0_moveRows_20 : decode cX0_moveRows 20 = .ok (.getfield 15, 3) := by decide +kernel
theorem dX0_moveRows_23 : decode cX0_moveRows 23 = .ok (.iload_n 2, 1) := by decide +kernel
theorem dX0_moveRows_24 : decode cX0_moveRows 24 = .ok (.iload_n 3, 1) := by decide +kernel
theorem dX0_moveRows_25 : decode cX0_moveRows 25 = .ok (.invokestatic 32, 3) := by decide +kernel
theorem dX0_moveRows_28 : decode cX0_moveRows 28 = .ok (.aload_n 0, 1) := by decide +kernel
theorem dX0_moveRows_29 : decode cX0_moveRows 29 = .ok (.getfield 18, 3) := by decide +kernel
theorem dX0_moveRows_32 : decode cX0_moveRows 32 = .ok (.iload_n 1, 1) := by decide +kernel
theorem dX0_moveRows_33 : decode cX0_moveRows 33 = .ok (.iconst 4, 1) := by decide +kernel
theorem dX0_moveRows_34 : decode cX0_moveRows 34 = .ok (.imul, 1) := by decide +kernel
theorem dX0_moveRows_35 : decode cX0_moveRows 35 = .ok (.aload_n 0, 1) := by decide +kernel
theorem dX0_moveRows_36 : decode cX0_moveRows 36 = .ok (.getfield 18, 3) := by decide +kernel
theorem dX0_moveRows_39 : decode cX0_moveRows 39 = .ok (.iload_n 2, 1) := by decide +kernel
theorem dX0_moveRows_40 : decode cX0_moveRows 40 = .ok (.iconst 4, 1) := by decide +kernel
theorem dX0_moveRows_41 : decode cX0_moveRows 41 = .ok (.imul, 1) := by decide +kernel
theorem dX0_moveRows_42 : decode cX0_moveRows 42 = .ok (.iload_n 3, 1) := by decide +kernel
theorem dX0_moveRows_43 : decode cX0_moveRows 43 = .ok (.iconst 4, 1) := by decide +kernel
theorem dX0_moveRows_44 : decode cX0_moveRows 44 = .ok (.imul, 1) := by decide +kernel
theorem dX0_moveRows_45 : decode cX0_moveRows 45 = .ok (.invokestatic 32, 3) := by decide +kernel
theorem dX0_moveRows_48 : decode cX0_moveRows 48 = .ok (.aload_n 0, 1) := by decide +kernel
theorem dX0_moveRows_49 : decode cX0_moveRows 49 = .ok (.getfield 21, 3) := by decide +kernel
theorem dX0_moveRows_52 : decode cX0_moveRows 52 = .ok (.iload_n 1, 1) := by decide +kernel
theorem dX0_moveRows_53 : decode cX0_moveRows 53 = .ok (.iconst 4, 1) := by decide +kernel
theorem dX0_moveRows_54 : decode cX0_moveRows 54 = .ok (.imul, 1) := by decide +kernel
theorem dX0_moveRows_55 : decode cX0_moveRows 55 = .ok (.aload_n 0, 1) := by decide +kernel
theorem dX0_moveRows_56 : decode cX0_moveRows 56 = .ok (.getfield 21, 3) := by decide +kernel
theorem dX0_moveRows_59 : decode cX0_moveRows 59 = .ok (.iload_n 2, 1) := by decide +kernel
theorem dX0_moveRows_60 : decode cX0_moveRows 60 = .ok (.iconst 4, 1) := by decide +kernel
theorem dX0_moveRows_61 : decode cX0_moveRows 61 = .ok (.imul, 1) := by decide +kernel
theorem dX0_moveRows_62 : decode cX0_moveRows 62 = .ok (.iload_n 3, 1) := by decide +kernel
theorem dX0_moveRows_63 : decode cX0_moveRows 63 = .ok (.iconst 4, 1) := by decide +kernel
theorem dX0_moveRows_64 : decode cX0_moveRows 64 = .ok (.imul, 1) := by decide +kernel
theorem dX0_moveRows_65 : decode cX0_moveRows 65 = .ok (.invokestatic 32, 3) := by decide +kernel
theorem dX0_moveRows_68 : decode cX0_moveRows 68 = .ok (.return_, 1) := by decide +kernel
theorem dX0_putLayer_0 : decode cX0_putLayer 0 = .ok (.aload_n 0, 1) := by decide +kernel
theorem dX0_putLayer_1 : decode cX0_putLayer 1 = .ok (.getfield 15, 3) := by decide +kernel
theorem dX0_putLayer_4 : decode cX0_putLayer 4 = .ok (.iload_n 1, 1) := by decide +kernel
theorem dX0_putLayer_5 : decode cX0_putLayer 5 = .ok (.iaload, 1) := by decide +kernel
theorem dX0_putLayer_6 : decode cX0_putLayer 6 = .ok (.istore 4, 2) := by decide +kernel
theorem dX0_putLayer_8 : decode cX0_putLayer 8 = .ok (.iload 4, 2) := by decide +kernel
theorem dX0_putLayer_10 : decode cX0_putLayer 10 = .ok (.iconst 4, 1) := by decide +kernel
theorem dX0_putLayer_11 : decode cX0_putLayer 11 = .ok (.if_icmp .ge 37, 3) := by decide +kernel
theorem dX0_putLayer_14 : decode cX0_putLayer 14 = .ok (.aload_n 0, 1) := by decide +kernel
theorem dX0_putLayer_15 : decode cX0_putLayer 15 = .ok (.getfield 18, 3) := by decide +kernel
theorem dX0_putLayer_18 : decode cX0_putLayer 18 = .ok (.iload_n 1, 1) := by decide +kernel
theorem dX0_putLayer_19 : decode cX0_putLayer 19 = .ok (.iconst 4, 1) := by decide +kernel
theorem dX0_putLayer_20 : decode cX0_putLayer 20 = .ok (.imul, 1) := by decide +kernel
theorem dX0_putLayer_21 : decode cX0_putLayer 21 = .ok (.iload 4, 2) := by decide +kernel
theorem dX0_putLayer_23 : decode cX0_putLayer 23 = .ok (.iadd, 1) := by decide +kernel
theorem dX0_putLayer_24 : decode cX0_putLayer 24 = .ok (.iload_n 2, 1) := by decide +kernel
theorem dX0_putLayer_25 : decode cX0_putLayer 25 = .ok (.iastore, 1) := by decide +kernel
theorem dX0_putLayer_26 : decode cX0_putLayer 26 = .ok (.aload_n 0, 1) := by decide +kernel
theorem dX0_putLayer_27 : decode cX0_putLayer 27 = .ok (.getfield 21, 3) := by decide +kernel
theorem dX0_putLayer_30 : decode cX0_putLayer 30 = .ok (.iload_n 1, 1) := by decide +kernel
theorem dX0_putLayer_31 : decode cX0_putLayer 31 = .ok (.iconst 4, 1) := by decide +kernel
theorem dX0_putLayer_32 : decode cX0_putLayer 32 = .ok (.imul, 1) := by decide +kernel
theorem dX0_putLayer_33 : decode cX0_putLayer 33 = .ok (.iload 4, 2) := by decide +kernel
theorem dX0_putLayer_35 : decode cX0_putLayer 35 = .ok (.iadd, 1) := by decide +kernel
theorem dX0_putLayer_36 : decode cX0_putLayer 36 = .ok (.iload_n 3, 1) := by decide +kernel
theorem dX0_putLayer_37 : decode cX0_putLayer 37 = .ok (.iastore, 1) := by decide +kernel
theorem dX0_putLayer_38 : decode cX0_putLayer 38 = .ok (.aload_n 0, 1) := by decide +kernel
theorem dX0_putLayer_39 : decode cX0_putLayer 39 = .ok (.getfield 15, 3) := by decide +kernel
theorem dX0_putLayer_42 : decode cX0_putLayer 42 = .ok (.iload_n 1, 1) := by decide +kernel
theorem dX0_putLayer_43 : decode cX0_putLayer 43 = .ok (.iload 4, 2) := by decide +kernel
theorem dX0_putLayer_45 : decode cX0_putLayer 45 = .ok (.iconst 1, 1) := by decide +kernel
theorem dX0_putLayer_46 : decode cX0_putLayer 46 = .ok (.iadd, 1) := by decide +kernel
theorem dX0_putLayer_47 : decode cX0_putLayer 47 = .ok (.iastore, 1) := by decide +kernel
theorem dX0_putLayer_48 : decode cX0_putLayer 48 = .ok (.return_, 1) := by decide +kernel
theorem dX0_kindAt_0 : decode cX0_kindAt 0 = .ok (.aload_n 0, 1) := by decide +kernel
theorem dX0_kindAt_1 : decode cX0_kindAt 1 = .ok (.getfield 18, 3) := by decide +kernel
theorem dX0_kindAt_4 : decode cX0_kindAt 4 = .ok (.iload_n 1, 1) := by decide +kernel
theorem dX0_kindAt_5 : decode cX0_kindAt 5 = .ok (.iconst 4, 1) := by decide +kernel
theorem dX0_kindAt_6 : decode cX0_kindAt 6 = .ok (.imul, 1) := by decide +kernel
theorem dX0_kindAt_7 : decode cX0_kindAt 7 = .ok (.iload_n 2, 1) := by decide +kernel
theorem dX0_kindAt_8 : decode cX0_kindAt 8 = .ok (.iadd, 1) := by decide +kernel
theorem dX0_kindAt_9 : decode cX0_kindAt 9 = .ok (.iaload, 1) := by decide +kernel
theorem dX0_kindAt_10 : decode cX0_kindAt 10 = .ok (.ireturn, 1) := by decide +kernel
theorem dX0_thicknessAt_0 : decode cX0_thicknessAt 0 = .ok (.aload_n 0, 1) := by decide +kernel
theorem dX0_thicknessAt_1 : decode cX0_thicknessAt 1 = .ok (.getfield 21, 3) := by decide +kernel
theorem dX0_thicknessAt_4 : decode cX0_thicknessAt 4 = .ok (.iload_n 1, 1) := by decide +kernel
theorem dX0_thicknessAt_5 : decode cX0_thicknessAt 5 = .ok (.iconst 4, 1) := by decide +kernel
theorem dX0_thicknessAt_6 : decode cX0_thicknessAt 6 = .ok (.imul, 1) := by decide +kernel
theorem dX0_thicknessAt_7 : decode cX0_thicknessAt 7 = .ok (.iload_n 2, 1) := by decide +kernel
theorem dX0_thicknessAt_8 : decode cX0_thicknessAt 8 = .ok (.iadd, 1) := by decide +kernel
theorem dX0_thicknessAt_9 : decode cX0_thicknessAt 9 = .ok (.iaload, 1) := by decide +kernel
theorem dX0_thicknessAt_10 : decode cX0_thicknessAt 10 = .ok (.ireturn, 1) := by decide +kernel
theorem dX0_weightedThickness_0 : decode cX0_weightedThickness 0 = .ok (.iconst 0, 1) := by decide +kernel
theorem dX0_weightedThickness_1 : decode cX0_weightedThickness 1 = .ok (.istore_n 2, 1) := by decide +kernel
theorem dX0_weightedThickness_2 : decode cX0_weightedThickness 2 = .ok (.iconst 0, 1) := by decide +kernel
theorem dX0_weightedThickness_3 : decode cX0_weightedThickness 3 = .ok (.istore_n 3, 1) := by decide +kernel
theorem dX0_weightedThickness_4 : decode cX0_weightedThickness 4 = .ok (.iload_n 3, 1) := by decide +kernel
theorem dX0_weightedThickness_5 : decode cX0_weightedThickness 5 = .ok (.aload_n 0, 1) := by decide +kernel
theorem dX0_weightedThickness_6 : decode cX0_weightedThickness 6 = .ok (.getfield 15, 3) := by decide +kernel
theorem dX0_weightedThickness_9 : decode cX0_weightedThickness 9 = .ok (.iload_n 1, 1) := by decide +kernel
theorem dX0_weightedThickness_10 : decode cX0_weightedThickness 10 = .ok (.iaload, 1) := by decide +kernel
theorem dX0_weightedThickness_11 : decode cX0_weightedThickness 11 = .ok (.if_icmp .ge 29, 3) := by decide +kernel
theorem dX0_weightedThickness_14 : decode cX0_weightedThickness 14 = .ok (.iload_n 2, 1) := by decide +kernel
theorem dX0_weightedThickness_15 : decode cX0_weightedThickness 15 = .ok (.aload_n 0, 1) := by decide +kernel
theorem dX0_weightedThickness_16 : decode cX0_weightedThickness 16 = .ok (.iload_n 1, 1) := by decide +kernel
theorem dX0_weightedThickness_17 : decode cX0_weightedThickness 17 = .ok (.iload_n 3, 1) := by decide +kernel
theorem dX0_weightedThickness_18 : decode cX0_weightedThickness 18 = .ok (.invokevirtual 41, 3) := by decide +kernel
theorem dX0_weightedThickness_21 : decode cX0_weightedThickness 21 = .ok (.getstatic 45, 3) := by decide +kernel
theorem dX0_weightedThickness_24 : decode cX0_weightedThickness 24 = .ok (.aload_n 0, 1) := by decide +kernel
theorem dX0_weightedThickness_25 : decode cX0_weightedThickness 25 = .ok (.iload_n 1, 1) := by decide +kernel
theorem dX0_weightedThickness_26 : decode cX0_weightedThickness 26 = .ok (.iload_n 3, 1) := by decide +kernel
theorem dX0_weightedThickness_27 : decode cX0_weightedThickness 27 = .ok (.invokevirtual 48, 3) := by decide +kernel
theorem dX0_weightedThickness_30 : decode cX0_weightedThickness 30 = .ok (.iaload, 1) := by decide +kernel
theorem dX0_weightedThickness_31 : decode cX0_weightedThickness 31 = .ok (.imul, 1) := by decide +kernel
theorem dX0_weightedThickness_32 : decode cX0_weightedThickness 32 = .ok (.iadd, 1) := by decide +kernel
theorem dX0_weightedThickness_33 : decode cX0_weightedThickness 33 = .ok (.istore_n 2, 1) := by decide +kernel
theorem dX0_weightedThickness_34 : decode cX0_weightedThickness 34 = .ok (.iinc 3 1, 3) := by decide +kernel
theorem dX0_weightedThickness_37 : decode cX0_weightedThickness 37 = .ok (.goto (-33), 3) := by decide +kernel
theorem dX0_weightedThickness_40 : decode cX0_weightedThickness 40 = .ok (.iload_n 2, 1) := by decide +kernel
theorem dX0_weightedThickness_41 : decode cX0_weightedThickness 41 = .ok (.ireturn, 1) := by decide +kernel
theorem dX1_init_0 : decode cX1_init 0 = .ok (.aload_n 0, 1) := by decide +kernel
theorem dX1_init_1 : decode cX1_init 1 = .ok (.invokespecial 3, 3) := by decide +kernel
theorem dX1_init_4 : decode cX1_init 4 = .ok (.aload_n 0, 1) := by decide +kernel
theorem dX1_init_5 : decode cX1_init 5 = .ok (.iconst (-1), 1) := by decide +kernel
theorem dX1_init_6 : decode cX1_init 6 = .ok (.putfield 9, 3) := by decide +kernel
theorem dX1_init_9 : decode cX1_init 9 = .ok (.aload_n 0, 1) := by decide +kernel
theorem dX1_init_10 : decode cX1_init 10 = .ok (.bipush 10, 2) := by decide +kernel
theorem dX1_init_12 : decode cX1_init 12 = .ok (.newarray .int, 2) := by decide +kernel
theorem dX1_init_14 : decode cX1_init 14 = .ok (.putfield 15, 3) := by decide +kernel
theorem dX1_init_17 : decode cX1_init 17 = .ok (.aload_n 0, 1) := by decide +kernel
theorem dX1_init_18 : decode cX1_init 18 = .ok (.sipush 600, 3) := by decide +kernel
theorem dX1_init_21 : decode cX1_init 21 = .ok (.newarray .long, 2) := by decide +kernel
theorem dX1_init_23 : decode cX1_init 23 = .ok (.putfield 19, 3) := by decide +kernel
theorem dX1_init_26 : decode cX1_init 26 = .ok (.aload_n 0, 1) := by decide +kernel
theorem dX1_init_27 : decode cX1_init 27 = .ok (.bipush 60, 2) := by decide +kernel
theorem dX1_init_29 : decode cX1_init 29 = .ok (.newarray .long, 2) := by decide +kernel
theorem dX1_init_31 : decode cX1_init 31 = .ok (.putfield 23, 3) := by decide +kernel
theorem dX1_init_34 : decode cX1_init 34 = .ok (.return_, 1) := by decide +kernel
theorem dX1_prepare_0 : decode cX1_prepare 0 = .ok (.aload_n 1, 1) := by decide +kernel
theorem dX1_prepare_1 : decode cX1_prepare 1 = .ok (.getfield 26, 3) := by decide +kernel
theorem dX1_prepare_4 : decode cX1_prepare 4 = .ok (.astore 4, 2) := by decide +kernel
theorem dX1_prepare_6 : decode cX1_prepare 6 = .ok (.aload_n 0, 1) := by decide +kernel
theorem dX1_prepare_7 : decode cX1_prepare 7 = .ok (.iconst (-1), 1) := by decide +kernel
theorem dX1_prepare_8 : decode cX1_prepare 8 = .ok (.putfield 9, 3) := by decide +kernel
theorem dX1_prepare_11 : decode cX1_prepare 11 = .ok (.iconst 0, 1) := by decide +kernel
theorem dX1_prepare_12 : decode cX1_prepare 12 = .ok (.istore 5, 2) := by decide +kernel
theorem dX1_prepare_14 : decode cX1_prepare 14 = .ok (.iload 5, 2) := by decide +kernel
theorem dX1_prepare_16 : decode cX1_prepare 16 = .ok (.aload 4, 2) := by decide +kernel
theorem dX1_prepare_18 : decode cX1_prepare 18 = .ok (.getfield 32, 3) := by decide +kernel
theorem dX1_prepare_21 : decode cX1_prepare 21 = .ok (.if_icmp .ge 102, 3) := by decide +kernel
theorem dX1_prepare_24 : decode cX1_prepare 24 = .ok (.aload_n 0, 1) := by decide +kernel
theorem dX1_prepare_25 : decode cX1_prepare 25 = .ok (.getfield 15, 3) := by decide +kernel
theorem dX1_prepare_28 : decode cX1_prepare 28 = .ok (.iload 5, 2) := by decide +kernel
theorem dX1_prepare_30 : decode cX1_prepare 30 = .ok (.aload_n 1, 1) := by decide +kernel
theorem dX1_prepare_31 : decode cX1_prepare 31 = .ok (.iload 5, 2) := by decide +kernel
theorem dX1_prepare_33 : decode cX1_prepare 33 = .ok (.iload_n 3, 1) := by decide +kernel
theorem dX1_prepare_34 : decode cX1_prepare 34 = .ok (.invokevirtual 37, 3) := by decide +kernel
theorem dX1_prepare_37 : decode cX1_prepare 37 = .ok (.iastore, 1) := by decide +kernel
theorem dX1_prepare_38 : decode cX1_prepare 38 = .ok (.aload 4, 2) := by decide +kernel
theorem dX1_prepare_40 : decode cX1_prepare 40 = .ok (.iload 5, 2) := by decide +kernel
theorem dX1_prepare_42 : decode cX1_prepare 42 = .ok (.iconst 3, 1) := by decide +kernel
theorem dX1_prepare_43 : decode cX1_prepare 43 = .ok (.invokevirtual 41, 3) := by decide +kernel
theorem dX1_prepare_46 : decode cX1_prepare 46 = .ok (.istore 6, 2) := by decide +kernel
theorem dX1_prepare_48 : decode cX1_prepare 48 = .ok (.aload 4, 2) := by decide +kernel
theorem dX1_prepare_50 : decode cX1_prepare 50 = .ok (.iload 5, 2) := by decide +kernel
theorem dX1_prepare_52 : decode cX1_prepare 52 = .ok (.iconst 5, 1) := by decide +kernel
theorem dX1_prepare_53 : decode cX1_prepare 53 = .ok (.invokevirtual 41, 3) := by decide +kernel
theorem dX1_prepare_56 : decode cX1_prepare 56 = .ok (.istore 7, 2) := by decide +kernel
theorem dX1_prepare_58 : decode cX1_prepare 58 = .ok (.aload 4, 2) := by decide +kernel
theorem dX1_prepare_60 : decode cX1_prepare 60 = .ok (.iload 5, 2) := by decide +kernel
theorem dX1_prepare_62 : decode cX1_prepare 62 = .ok (.iconst 4, 1) := by decide +kernel
theorem dX1_prepare_63 : decode cX1_prepare 63 = .ok (.invokevirtual 41, 3) := by decide +kernel
theorem dX1_prepare_66 : decode cX1_prepare 66 = .ok (.iload_n 2, 1) := by decide +kernel
theorem dX1_prepare_67 : decode cX1_prepare 67 = .ok (.invokestatic 44, 3) := by decide +kernel
theorem dX1_prepare_70 : decode cX1_prepare 70 = .ok (.istore 8, 2) := by decide +kernel
theorem dX1_prepare_72 : decode cX1_prepare 72 = .ok (.iconst 0, 1) := by decide +kernel
theorem dX1_prepare_73 : decode cX1_prepare 73 = .ok (.istore 9, 2) := by decide +kernel
theorem dX1_prepare_75 : decode cX1_prepare 75 = .ok (.iload 9, 2) := by decide +kernel
theorem dX1_prepare_77 : decode cX1_prepare 77 = .ok (.bipush 60, 2) := by decide +kernel
theorem dX1_prepare_79 : decode cX1_prepare 79 = .ok (.if_icmp .ge 38, 3) := by decide +kernel
theorem dX1_prepare_82 : decode cX1_prepare 82 = .ok (.aload_n 0, 1) := by decide +kernel
theorem dX1_prepare_83 : decode cX1_prepare 83 = .ok (.getfield 19, 3) := by decide +kernel
theorem dX1_prepare_86 : decode cX1_prepare 86 = .ok (.iload 5, 2) := by decide +kernel
theorem dX1_prepare_88 : decode cX1_prepare 88 = .ok (.bipush 60, 2) := by decide +kernel
theorem dX1_prepare_90 : decode cX1_prepare 90 = .ok (.imul, 1) := by decide +kernel
theorem dX1_prepare_91 : decode cX1_prepare 91 = .ok (.iload 9, 2) := by decide +kernel
theorem dX1_prepare_93 : decode cX1_prepare 93 = .ok (.iadd, 1) := by decide +kernel
theorem dX1_prepare_94 : decode cX1_prepare 94 = .ok (.iload 8, 2) := by decide +kernel
theorem dX1_prepare_96 : decode cX1_prepare 96 = .ok (.iload 6, 2) := by decide +kernel
theorem dX1_prepare_98 : decode cX1_prepare 98 = .ok (.invokestatic 47, 3) := by decide +kernel
theorem dX1_prepare_101 : decode cX1_prepare 101 = .ok (.lastore, 1) := by decide +kernel
theorem dX1_prepare_102 : decode cX1_prepare 102 = .ok (.iload 8, 2) := by decide +kernel
theorem dX1_prepare_104 : decode cX1_prepare 104 = .ok (.iload 7, 2) := by decide +kernel
theorem dX1_prepare_106 : decode cX1_prepare 106 = .ok (.invokestatic 51, 3) := by decide +kernel
theorem dX1_prepare_109 : decode cX1_prepare 109 = .ok (.istore 8, 2) := by decide +kernel
theorem dX1_prepare_111 : decode cX1_prepare 111 = .ok (.iinc 9 1, 3) := by decide +kernel
theorem dX1_prepare_114 : decode cX1_prepare 114 = .ok (.goto (-39), 3) := by decide +kernel
theorem dX1_prepare_117 : decode cX1_prepare 117 = .ok (.iinc 5 1, 3) := by decide +kernel
theorem dX1_prepare_120 : decode cX1_prepare 120 = .ok (.goto (-106), 3) := by decide +kernel
theorem dX1_prepare_123 : decode cX1_prepare 123 = .ok (.return_, 1) := by decide +kernel
theorem dX1_yearsOf_0 : decode cX1_yearsOf 0 = .ok (.aload_n 0, 1) := by decide +kernel
theorem dX1_yearsOf_1 : decode cX1_yearsOf 1 = .ok (.aload_n 1, 1) := by decide +kernel
theorem dX1_yearsOf_2 : decode cX1_yearsOf 2 = .ok (.iload_n 2, 1) := by decide +kernel
theorem dX1_yearsOf_3 : decode cX1_yearsOf 3 = .ok (.invokevirtual 54, 3) := by decide +kernel
theorem dX1_yearsOf_6 : decode cX1_yearsOf 6 = .ok (.aload_n 0, 1) := by decide +kernel
theorem dX1_yearsOf_7 : decode cX1_yearsOf 7 = .ok (.aload_n 1, 1) := by decide +kernel
theorem dX1_yearsOf_8 : decode cX1_yearsOf 8 = .ok (.getfield 58, 3) := by decide +kernel
theorem dX1_yearsOf_11 : decode cX1_yearsOf 11 = .ok (.iload_n 2, 1) := by decide +kernel
theorem dX1_yearsOf_12 : decode cX1_yearsOf 12 = .ok (.iaload, 1) := by decide +kernel
theorem dX1_yearsOf_13 : decode cX1_yearsOf 13 = .ok (.aload_n 1, 1) := by decide +kernel
theorem dX1_yearsOf_14 : decode cX1_yearsOf 14 = .ok (.getfield 61, 3) := by decide +kernel
theorem dX1_yearsOf_17 : decode cX1_yearsOf 17 = .ok (.iload_n 2, 1) := by decide +kernel
theorem dX1_yearsOf_18 : decode cX1_yearsOf 18 = .ok (.laload, 1) := by decide +kernel
theorem dX1_yearsOf_19 : decode cX1_yearsOf 19 = .ok (.aload_n 1, 1) := by decide +kernel
theorem dX1_yearsOf_20 : decode cX1_yearsOf 20 = .ok (.iload_n 2, 1) := by decide +kernel
theorem dX1_yearsOf_21 : decode cX1_yearsOf 21 = .ok (.invokevirtual 64, 3) := by decide +kernel
theorem dX1_yearsOf_24 : decode cX1_yearsOf 24 = .ok (.invokevirtual 68, 3) := by decide +kernel
theorem dX1_yearsOf_27 : decode cX1_yearsOf 27 = .ok (.aload_n 0, 1) := by decide +kernel
theorem dX1_yearsOf_28 : decode cX1_yearsOf 28 = .ok (.aload_n 1, 1) := by decide +kernel
theorem dX1_yearsOf_29 : decode cX1_yearsOf 29 = .ok (.invokevirtual 72, 3) := by decide +kernel
theorem dX1_yearsOf_32 : decode cX1_yearsOf 32 = .ok (.ireturn, 1) := by decide +kernel
theorem dX1_yearsPatched_0 : decode cX1_yearsPatched 0 = .ok (.aload_n 0, 1) := by decide +kernel
theorem dX1_yearsPatched_1 : decode cX1_yearsPatched 1 = .ok (.aload_n 1, 1) := by decide +kernel
theorem dX1_yearsPatched_2 : decode cX1_yearsPatched 2 = .ok (.iload_n 3, 1) := by decide +kernel
theorem dX1_yearsPatched_3 : decode cX1_yearsPatched 3 = .ok (.invokevirtual 54, 3) := by decide +kernel
theorem dX1_yearsPatched_6 : decode cX1_yearsPatched 6 = .ok (.iload_n 2, 1) := by decide +kernel
theorem dX1_yearsPatched_7 : decode cX1_yearsPatched 7 = .ok (.iconst 3, 1) := by decide +kernel
theorem dX1_yearsPatched_8 : decode cX1_yearsPatched 8 = .ok (.if_icmp .ne 19, 3) := by decide +kernel
theorem dX1_yearsPatched_11 : decode cX1_yearsPatched 11 = .ok (.aload_n 0, 1) := by decide +kernel
theorem dX1_yearsPatched_12 : decode cX1_yearsPatched 12 = .ok (.iconst 0, 1) := by decide +kernel
theorem dX1_yearsPatched_13 : decode cX1_yearsPatched 13 = .ok (.lconst 0, 1) := by decide +kernel
theorem dX1_yearsPatched_14 : decode cX1_yearsPatched 14 = .ok (.aload_n 1, 1) := by decide +kernel
theorem dX1_yearsPatched_15 : decode cX1_yearsPatched 15 = .ok (.bipush 12, 2) := by decide +kernel
theorem dX1_yearsPatched_17 : decode cX1_yearsPatched 17 = .ok (.iconst 0, 1) := by decide +kernel
theorem dX1_yearsPatched_18 : decode cX1_yearsPatched 18 = .ok (.invokevirtual 78, 3) := by decide +kernel
theorem dX1_yearsPatched_21 : decode cX1_yearsPatched 21 = .ok (.invokevirtual 68, 3) := by decide +kernel
theorem dX1_yearsPatched_24 : decode cX1_yearsPatched 24 = .ok (.goto 46, 3) := by decide +kernel
theorem dX1_yearsPatched_27 : decode cX1_yearsPatched 27 = .ok (.iload_n 2, 1) := by decide +kernel
theorem dX1_yearsPatched_28 : decode cX1_yearsPatched 28 = .ok (.iconst 2, 1) := by decide +kernel
theorem dX1_yearsPatched_29 : decode cX1_yearsPatched 29 = .ok (.if_icmp .ne 8, 3) := by decide +kernel
theorem dX1_yearsPatched_32 : decode cX1_yearsPatched 32 = .ok (.iload 4, 2) := by decide +kernel
theorem dX1_yearsPatched_34 : decode cX1_yearsPatched 34 = .ok (.goto 4, 3) := by decide +kernel
theorem dX1_yearsPatched_37 : decode cX1_yearsPatched 37 = .ok (.iconst 0, 1) := by decide +kernel
theorem dX1_yearsPatched_38 : decode cX1_yearsPatched 38 = .ok (.istore 5, 2) := by decide +kernel
theorem dX1_yearsPatched_40 : decode cX1_yearsPatched 40 = .ok (.aload_n 0, 1) := by decide +kernel
theorem dX1_yearsPatched_41 : decode cX1_yearsPatched 41 = .ok (.iconst 0, 1) := by decide +kernel
theorem dX1_yearsPatched_42 : decode cX1_yearsPatched 42 = .ok (.aload_n 1, 1) := by decide +kernel
theorem dX1_yearsPatched_43 : decode cX1_yearsPatched 43 = .ok (.getfield 61, 3) := by decide +kernel
theorem dX1_yearsPatched_46 : decode cX1_yearsPatched 46 = .ok (.iload_n 3, 1) := by decide +kernel
theorem dX1_yearsPatched_47 : decode cX1_yearsPatched 47 = .ok (.laload, 1) := by decide +kernel
theorem dX1_yearsPatched_48 : decode cX1_yearsPatched 48 = .ok (.aload_n 1, 1) := by decide +kernel
theorem dX1_yearsPatched_49 : decode cX1_yearsPatched 49 = .ok (.aload_n 1, 1) := by decide +kernel
theorem dX1_yearsPatched_50 : decode cX1_yearsPatched 50 = .ok (.iload_n 3, 1) := by decide +kernel
theorem dX1_yearsPatched_51 : decode cX1_yearsPatched 51 = .ok (.iconst (-1), 1) := by decide +kernel
theorem dX1_yearsPatched_52 : decode cX1_yearsPatched 52 = .ok (.invokevirtual 81, 3) := by decide +kernel
theorem dX1_yearsPatched_55 : decode cX1_yearsPatched 55 = .ok (.aload_n 1, 1) := by decide +kernel
theorem dX1_yearsPatched_56 : decode cX1_yearsPatched 56 = .ok (.getfield 84, 3) := by decide +kernel
theorem dX1_yearsPatched_59 : decode cX1_yearsPatched 59 = .ok (.iload_n 3, 1) := by decide +kernel
theorem dX1_yearsPatched_60 : decode cX1_yearsPatched 60 = .ok (.iaload, 1) := by decide +kernel
theorem dX1_yearsPatched_61 : decode cX1_yearsPatched 61 = .ok (.iload 5, 2) := by decide +kernel
theorem dX1_yearsPatched_63 : decode cX1_yearsPatched 63 = .ok (.iadd, 1) := by decide +kernel
theorem dX1_yearsPatched_64 : decode cX1_yearsPatched 64 = .ok (.invokevirtual 78, 3) := by decide +kernel
theorem dX1_yearsPatched_67 : decode cX1_yearsPatched 67 = .ok (.invokevirtual 68, 3) := by decide +kernel
theorem dX1_yearsPatched_70 : decode cX1_yearsPatched 70 = .ok (.aload_n 0, 1) := by decide +kernel
theorem dX1_yearsPatched_71 : decode cX1_yearsPatched 71 = .ok (.aload_n 1, 1) := by decide +kernel
theorem dX1_yearsPatched_72 : decode cX1_yearsPatched 72 = .ok (.invokevirtual 72, 3) := by decide +kernel
theorem dX1_yearsPatched_75 : decode cX1_yearsPatched 75 = .ok (.ireturn, 1) := by decide +kernel
theorem dX1_leastYears_0 : decode cX1_leastYears 0 = .ok (.bipush 61, 2) := by decide +kernel
theorem dX1_leastYears_2 : decode cX1_leastYears 2 = .ok (.istore 4, 2) := by decide +kernel
theorem dX1_leastYears_4 : decode cX1_leastYears 4 = .ok (.aload_n 1, 1) := by decide +kernel
theorem dX1_leastYears_5 : decode cX1_leastYears 5 = .ok (.iconst 0, 1) := by decide +kernel
theorem dX1_leastYears_6 : decode cX1_leastYears 6 = .ok (.iload_n 3, 1) := by decide +kernel
theorem dX1_leastYears_7 : decode cX1_leastYears 7 = .ok (.iconst 1, 1) := by decide +kernel
theorem dX1_leastYears_8 : decode cX1_leastYears 8 = .ok (.iadd, 1) := by decide +kernel
theorem dX1_leastYears_9 : decode cX1_leastYears 9 = .ok (.invokevirtual 87, 3) := by decide +kernel
theorem dX1_leastYears_12 : decode cX1_leastYears 12 = .ok (.istore 5, 2) := by decide +kernel
theorem dX1_leastYears_14 : decode cX1_leastYears 14 = .ok (.aload_n 1, 1) := by decide +kernel
theorem dX1_leastYears_15 : decode cX1_leastYears 15 = .ok (.iconst 0, 1) := by decide +kernel
theorem dX1_leastYears_16 : decode cX1_leastYears 16 = .ok (.iload_n 2, 1) := by decide +kernel
theorem dX1_leastYears_17 : decode cX1_leastYears 17 = .ok (.invokevirtual 87, 3) := by decide +kernel
theorem dX1_leastYears_20 : decode cX1_leastYears 20 = .ok (.istore 6, 2) := by decide +kernel
theorem dX1_leastYears_22 : decode cX1_leastYears 22 = .ok (.iload 6, 2) := by decide +kernel
theorem dX1_leastYears_24 : decode cX1_leastYears 24 = .ok (.iload 5, 2) := by decide +kernel
theorem dX1_leastYears_26 : decode cX1_leastYears 26 = .ok (.if_icmp .ge 23, 3) := by decide +kernel
theorem dX1_leastYears_29 : decode cX1_leastYears 29 = .ok (.iload 4, 2) := by decide +kernel
theorem dX1_leastYears_31 : decode cX1_leastYears 31 = .ok (.aload_n 0, 1) := by decide +kernel
theorem dX1_leastYears_32 : decode cX1_leastYears 32 = .ok (.aload_n 1, 1) := by decide +kernel
theorem dX1_leastYears_33 : decode cX1_leastYears 33 = .ok (.iload 6, 2) := by decide +kernel
theorem dX1_leastYears_35 : decode cX1_leastYears 35 = .ok (.invokevirtual 90, 3) := by decide +kernel
theorem dX1_leastYears_38 : decode cX1_leastYears 38 = .ok (.invokestatic 94, 3) := by decide +kernel
theorem dX1_leastYears_41 : decode cX1_leastYears 41 = .ok (.istore 4, 2) := by decide +kernel
theorem dX1_leastYears_43 : decode cX1_leastYears 43 = .ok (.iinc 6 1, 3) := by decide +kernel
theorem dX1_leastYears_46 : decode cX1_leastYears 46 = .ok (.goto (-24), 3) := by decide +kernel
theorem dX1_leastYears_49 : decode cX1_leastYears 49 = .ok (.iload 4, 2) := by decide +kernel
theorem dX1_leastYears_51 : decode cX1_leastYears 51 = .ok (.ireturn, 1) := by decide +kernel
theorem dX1_follow_0 : decode cX1_follow 0 = .ok (.aload_n 0, 1) := by decide +kernel
theorem dX1_follow_1 : decode cX1_follow 1 = .ok (.aload_n 1, 1) := by decide +kernel
theorem dX1_follow_2 : decode cX1_follow 2 = .ok (.iload_n 2, 1) := by decide +kernel
theorem dX1_follow_3 : decode cX1_follow 3 = .ok (.invokevirtual 54, 3) := by decide +kernel
theorem dX1_follow_6 : decode cX1_follow 6 = .ok (.aload_n 0, 1) := by decide +kernel
theorem dX1_follow_7 : decode cX1_follow 7 = .ok (.aload_n 1, 1) := by decide +kernel
theorem dX1_follow_8 : decode cX1_follow 8 = .ok (.getfield 58, 3) := by decide +kernel
theorem dX1_follow_11 : decode cX1_follow 11 = .ok (.iload_n 2, 1) := by decide +kernel
theorem dX1_follow_12 : decode cX1_follow 12 = .ok (.iaload, 1) := by decide +kernel
theorem dX1_follow_13 : decode cX1_follow 13 = .ok (.aload_n 1, 1) := by decide +kernel
theorem dX1_follow_14 : decode cX1_follow 14 = .ok (.getfield 61, 3) := by decide +kernel
theorem dX1_follow_17 : decode cX1_follow 17 = .ok (.iload_n 2, 1) := by decide +kernel
theorem dX1_follow_18 : decode cX1_follow 18 = .ok (.laload, 1) := by decide +kernel
theorem dX1_follow_19 : decode cX1_follow 19 = .ok (.aload_n 1, 1) := by decide +kernel
theorem dX1_follow_20 : decode cX1_follow 20 = .ok (.iload_n 2, 1) := by decide +kernel
theorem dX1_follow_21 : decode cX1_follow 21 = .ok (.invokevirtual 64, 3) := by decide +kernel
theorem dX1_follow_24 : decode cX1_follow 24 = .ok (.invokevirtual 68, 3) := by decide +kernel
theorem dX1_follow_27 : decode cX1_follow 27 = .ok (.iconst 0, 1) := by decide +kernel
theorem dX1_follow_28 : decode cX1_follow 28 = .ok (.istore 4, 2) := by decide +kernel
theorem dX1_follow_30 : decode cX1_follow 30 = .ok (.iload 4, 2) := by decide +kernel
theorem dX1_follow_32 : decode cX1_follow 32 = .ok (.iload_n 3, 1) := by decide +kernel
theorem dX1_follow_33 : decode cX1_follow 33 = .ok (.if_icmp .ge 33, 3) := by decide +kernel
theorem dX1_follow_36 : decode cX1_follow 36 = .ok (.iload 4, 2) := by decide +kernel
theorem dX1_follow_38 : decode cX1_follow 38 = .ok (.bipush 60, 2) := by decide +kernel
theorem dX1_follow_40 : decode cX1_follow 40 = .ok (.if_icmp .ge 26, 3) := by decide +kernel
theorem dX1_follow_43 : decode cX1_follow 43 = .ok (.aload_n 0, 1) := by decide +kernel
theorem dX1_follow_44 : decode cX1_follow 44 = .ok (.aload_n 0, 1) := by decide +kernel
theorem dX1_follow_45 : decode cX1_follow 45 = .ok (.getfield 23, 3) := by decide +kernel
theorem dX1_follow_48 : decode cX1_follow 48 = .ok (.iload 4, 2) := by decide +kernel
theorem dX1_follow_50 : decode cX1_follow 50 = .ok (.laload, 1) := by decide +kernel
theorem dX1_follow_51 : decode cX1_follow 51 = .ok (.aload_n 1, 1) := by decide +kernel
theorem dX1_follow_52 : decode cX1_follow 52 = .ok (.getfield 99, 3) := by decide +kernel
theorem dX1_follow_55 : decode cX1_follow 55 = .ok (.iconst 0, 1) := by decide +kernel
theorem dX1_follow_56 : decode cX1_follow 56 = .ok (.iaload, 1) := by decide +kernel
theorem dX1_follow_57 : decode cX1_follow 57 = .ok (.invokevirtual 102, 3) := by decide +kernel
theorem dX1_follow_60 : decode cX1_follow 60 = .ok (.iinc 4 1, 3) := by decide +kernel
theorem dX1_follow_63 : decode cX1_follow 63 = .ok (.goto (-33), 3) := by decide +kernel
theorem dX1_follow_66 : decode cX1_follow 66 = .ok (.return_, 1) := by decide +kernel
theorem dX1_lookAt_0 : decode cX1_lookAt 0 = .ok (.iload_n 2, 1) := by decide +kernel
theorem dX1_lookAt_1 : decode cX1_lookAt 1 = .ok (.aload_n 0, 1) := by decide +kernel
theorem dX1_lookAt_2 : decode cX1_lookAt 2 = .ok (.getfield 9, 3) := by decide +kernel
theorem dX1_lookAt_5 : decode cX1_lookAt 5 = .ok (.if_icmp .ne 4, 3) := by decide +kernel
theorem dX1_lookAt_8 : decode cX1_lookAt 8 = .ok (.return_, 1) := by decide +kernel
theorem dX1_lookAt_9 : decode cX1_lookAt 9 = .ok (.aload_n 0, 1) := by decide +kernel
theorem dX1_lookAt_10 : decode cX1_lookAt 10 = .ok (.iload_n 2, 1) := by decide +kernel
theorem dX1_lookAt_11 : decode cX1_lookAt 11 = .ok (.putfield 9, 3) := by decide +kernel
theorem dX1_lookAt_14 : decode cX1_lookAt 14 = .ok (.aload_n 0, 1) := by decide +kernel
theorem dX1_lookAt_15 : decode cX1_lookAt 15 = .ok (.getfield 23, 3) := by decide +kernel
theorem dX1_lookAt_18 : decode cX1_lookAt 18 = .ok (.lconst 0, 1) := by decide +kernel
theorem dX1_lookAt_19 : decode cX1_lookAt 19 = .ok (.invokestatic 106, 3) := by decide +kernel
theorem dX1_lookAt_22 : decode cX1_lookAt 22 = .ok (.aload_n 1, 1) := by decide +kernel
theorem dX1_lookAt_23 : decode cX1_lookAt 23 = .ok (.iload_n 2, 1) := by decide +kernel
theorem dX1_lookAt_24 : decode cX1_lookAt 24 = .ok (.invokevirtual 112, 3) := by decide +kernel
theorem dX1_lookAt_27 : decode cX1_lookAt 27 = .ok (.istore_n 3, 1) := by decide +kernel
theorem dX1_lookAt_28 : decode cX1_lookAt 28 = .ok (.aload_n 1, 1) := by decide +kernel
theorem dX1_lookAt_29 : decode cX1_lookAt 29 = .ok (.iload_n 2, 1) := by decide +kernel
theorem dX1_lookAt_30 : decode cX1_lookAt 30 = .ok (.invokevirtual 115, 3) := by decide +kernel
theorem dX1_lookAt_33 : decode cX1_lookAt 33 = .ok (.istore 4, 2) := by decide +kernel
theorem dX1_lookAt_35 : decode cX1_lookAt 35 = .ok (.iconst 0, 1) := by decide +kernel
theorem dX1_lookAt_36 : decode cX1_lookAt 36 = .ok (.istore 5, 2) := by decide +kernel
theorem dX1_lookAt_38 : decode cX1_lookAt 38 = .ok (.iload 5, 2) := by decide +kernel
theorem dX1_lookAt_40 : decode cX1_lookAt 40 = .ok (.aload_n 1, 1) := by decide +kernel
theorem dX1_lookAt_41 : decode cX1_lookAt 41 = .ok (.getfield 26, 3) := by decide +kernel
theorem dX1_lookAt_44 : decode cX1_lookAt 44 = .ok (.getfield 32, 3) := by decide +kernel
theorem dX1_lookAt_47 : decode cX1_lookAt 47 = .ok (.if_icmp .ge 40, 3) := by decide +kernel
theorem dX1_lookAt_50 : decode cX1_lookAt 50 = .ok (.aload_n 0, 1) := by decide +kernel
theorem dX1_lookAt_51 : decode cX1_lookAt 51 = .ok (.getfield 15, 3) := by decide +kernel
theorem dX1_lookAt_54 : decode cX1_lookAt 54 = .ok (.iload 5, 2) := by decide +kernel
theorem dX1_lookAt_56 : decode cX1_lookAt 56 = .ok (.iaload, 1) := by decide +kernel
theorem dX1_lookAt_57 : decode cX1_lookAt 57 = .ok (.iload_n 3, 1) := by decide +kernel
theorem dX1_lookAt_58 : decode cX1_lookAt 58 = .ok (.if_icmp .ne 23, 3) := by decide +kernel
theorem dX1_lookAt_61 : decode cX1_lookAt 61 = .ok (.aload_n 1, 1) := by decide +kernel
theorem dX1_lookAt_62 : decode cX1_lookAt 62 = .ok (.getfield 26, 3) := by decide +kernel
theorem dX1_lookAt_65 : decode cX1_lookAt 65 = .ok (.iload 5, 2) := by decide +kernel
theorem dX1_lookAt_67 : decode cX1_lookAt 67 = .ok (.iload 4, 2) := by decide +kernel
theorem dX1_lookAt_69 : decode cX1_lookAt 69 = .ok (.invokevirtual 118, 3) := by decide +kernel
theorem dX1_lookAt_72 : decode cX1_lookAt 72 = .ok (.ifCond .eq 9, 3) := by decide +kernel
theorem dX1_lookAt_75 : decode cX1_lookAt 75 = .ok (.aload_n 0, 1) := by decide +kernel
theorem dX1_lookAt_76 : decode cX1_lookAt 76 = .ok (.iload 5, 2) := by decide +kernel
theorem dX1_lookAt_78 : decode cX1_lookAt 78 = .ok (.invokevirtual 122, 3) := by decide +kernel
theorem dX1_lookAt_81 : decode cX1_lookAt 81 = .ok (.iinc 5 1, 3) := by decide +kernel
theorem dX1_lookAt_84 : decode cX1_lookAt 84 = .ok (.goto (-46), 3) := by decide +kernel
theorem dX1_lookAt_87 : decode cX1_lookAt 87 = .ok (.return_, 1) := by decide +kernel
theorem dX1_addShares_0 : decode cX1_addShares 0 = .ok (.iconst 0, 1) := by decide +kernel
theorem dX1_addShares_1 : decode cX1_addShares 1 = .ok (.istore_n 2, 1) := by decide +kernel
theorem dX1_addShares_2 : decode cX1_addShares 2 = .ok (.iload_n 2, 1) := by decide +kernel
theorem dX1_addShares_3 : decode cX1_addShares 3 = .ok (.bipush 60, 2) := by decide +kernel
theorem dX1_addShares_5 : decode cX1_addShares 5 = .ok (.if_icmp .ge 29, 3) := by decide +kernel
theorem dX1_addShares_8 : decode cX1_addShares 8 = .ok (.aload_n 0, 1) := by decide +kernel
theorem dX1_addShares_9 : decode cX1_addShares 9 = .ok (.getfield 23, 3) := by decide +kernel
theorem dX1_addShares_12 : decode cX1_addShares 12 = .ok (.iload_n 2, 1) := by decide +kernel
theorem dX1_addShares_13 : decode cX1_addShares 13 = .ok (.dup2, 1) := by decide +kernel
theorem dX1_addShares_14 : decode cX1_addShares 14 = .ok (.laload, 1) := by decide +kernel
theorem dX1_addShares_15 : decode cX1_addShares 15 = .ok (.aload_n 0, 1) := by decide +kernel
theorem dX1_addShares_16 : decode cX1_addShares 16 = .ok (.getfield 19, 3) := by decide +kernel
theorem dX1_addShares_19 : decode cX1_addShares 19 = .ok (.iload_n 1, 1) := by decide +kernel
theorem dX1_addShares_20 : decode cX1_addShares 20 = .ok (.bipush 60, 2) := by decide +kernel
theorem dX1_addShares_22 : decode cX1_addShares 22 = .ok (.imul, 1) := by decide +kernel
theorem dX1_addShares_23 : decode cX1_addShares 23 = .ok (.iload_n 2, 1) := by decide +kernel
theorem dX1_addShares_24 : decode cX1_addShares 24 = .ok (.iadd, 1) := by decide +kernel
theorem dX1_addShares_25 : decode cX1_addShares 25 = .ok (.laload, 1) := by decide +kernel
theorem dX1_addShares_26 : decode cX1_addShares 26 = .ok (.ladd, 1) := by decide +kernel
theorem dX1_addShares_27 : decode cX1_addShares 27 = .ok (.lastore, 1) := by decide +kernel
theorem dX1_addShares_28 : decode cX1_addShares 28 = .ok (.iinc 2 1, 3) := by decide +kernel
theorem dX1_addShares_31 : decode cX1_addShares 31 = .ok (.goto (-29), 3) := by decide +kernel
theorem dX1_addShares_34 : decode cX1_addShares 34 = .ok (.return_, 1) := by decide +kernel
theorem dX1_startWith_0 : decode cX1_startWith 0 = .ok (.aload_n 0, 1) := by decide +kernel
theorem dX1_startWith_1 : decode cX1_startWith 1 = .ok (.iload_n 1, 1) := by decide +kernel
theorem dX1_startWith_2 : decode cX1_startWith 2 = .ok (.putfield 126, 3) := by decide +kernel
theorem dX1_startWith_5 : decode cX1_startWith 5 = .ok (.aload_n 0, 1) := by decide +kernel
theorem dX1_startWith_6 : decode cX1_startWith 6 = .ok (.lload_n 2, 1) := by decide +kernel
theorem dX1_startWith_7 : decode cX1_startWith 7 = .ok (.putfield 129, 3) := by decide +kernel
theorem dX1_startWith_10 : decode cX1_startWith 10 = .ok (.aload_n 0, 1) := by decide +kernel
theorem dX1_startWith_11 : decode cX1_startWith 11 = .ok (.iload 4, 2) := by decide +kernel
theorem dX1_startWith_13 : decode cX1_startWith 13 = .ok (.putfield 132, 3) := by decide +kernel
theorem dX1_startWith_16 : decode cX1_startWith 16 = .ok (.return_, 1) := by decide +kernel
theorem dX1_yearsUntilFailure_0 : decode cX1_yearsUntilFailure 0 = .ok (.iconst 0, 1) := by decide +kernel
theorem dX1_yearsUntilFailure_1 : decode cX1_yearsUntilFailure 1 = .ok (.istore_n 2, 1) := by decide +kernel
theorem dX1_yearsUntilFailure_2 : decode cX1_yearsUntilFailure 2 = .ok (.iload_n 2, 1) := by decide +kernel
theorem dX1_yearsUntilFailure_3 : decode cX1_yearsUntilFailure 3 = .ok (.bipush 60, 2) := by decide +kernel
theorem dX1_yearsUntilFailure_5 : decode cX1_yearsUntilFailure 5 = .ok (.if_icmp .ge 46, 3) := by decide +kernel
theorem dX1_yearsUntilFailure_8 : decode cX1_yearsUntilFailure 8 = .ok (.aload_n 1, 1) := by decide +kernel
theorem dX1_yearsUntilFailure_9 : decode cX1_yearsUntilFailure 9 = .ok (.aload_n 0, 1) := by decide +kernel
theorem dX1_yearsUntilFailure_10 : decode cX1_yearsUntilFailure 10 = .ok (.getfield 126, 3) := by decide +kernel
theorem dX1_yearsUntilFailure_13 : decode cX1_yearsUntilFailure 13 = .ok (.aload_n 0, 1) := by decide +kernel
theorem dX1_yearsUntilFailure_14 : decode cX1_yearsUntilFailure 14 = .ok (.getfield 129, 3) := by decide +kernel
theorem dX1_yearsUntilFailure_17 : decode cX1_yearsUntilFailure 17 = .ok (.aload_n 0, 1) := by decide +kernel
theorem dX1_yearsUntilFailure_18 : decode cX1_yearsUntilFailure 18 = .ok (.getfield 132, 3) := by decide +kernel
theorem dX1_yearsUntilFailure_21 : decode cX1_yearsUntilFailure 21 = .ok (.invokevirtual 135, 3) := by decide +kernel
theorem dX1_yearsUntilFailure_24 : decode cX1_yearsUntilFailure 24 = .ok (.ifCond .eq 5, 3) := by decide +kernel
theorem dX1_yearsUntilFailure_27 : decode cX1_yearsUntilFailure 27 = .ok (.iload_n 2, 1) := by decide +kernel
theorem dX1_yearsUntilFailure_28 : decode cX1_yearsUntilFailure 28 = .ok (.ireturn, 1) := by decide +kernel
theorem dX1_yearsUntilFailure_29 : decode cX1_yearsUntilFailure 29 = .ok (.aload_n 0, 1) := by decide +kernel
theorem dX1_yearsUntilFailure_30 : decode cX1_yearsUntilFailure 30 = .ok (.aload_n 0, 1) := by decide +kernel
theorem dX1_yearsUntilFailure_31 : decode cX1_yearsUntilFailure 31 = .ok (.getfield 23, 3) := by decide +kernel
theorem dX1_yearsUntilFailure_34 : decode cX1_yearsUntilFailure 34 = .ok (.iload_n 2, 1) := by decide +kernel
theorem dX1_yearsUntilFailure_35 : decode cX1_yearsUntilFailure 35 = .ok (.laload, 1) := by decide +kernel
theorem dX1_yearsUntilFailure_36 : decode cX1_yearsUntilFailure 36 = .ok (.aload_n 1, 1) := by decide +kernel
theorem dX1_yearsUntilFailure_37 : decode cX1_yearsUntilFailure 37 = .ok (.getfield 99, 3) := by decide +kernel
theorem dX1_yearsUntilFailure_40 : decode cX1_yearsUntilFailure 40 = .ok (.iconst 0, 1) := by decide +kernel
theorem dX1_yearsUntilFailure_41 : decode cX1_yearsUntilFailure 41 = .ok (.iaload, 1) := by decide +kernel
theorem dX1_yearsUntilFailure_42 : decode cX1_yearsUntilFailure 42 = .ok (.invokevirtual 102, 3) := by decide +kernel
theorem dX1_yearsUntilFailure_45 : decode cX1_yearsUntilFailure 45 = .ok (.iinc 2 1, 3) := by decide +kernel
theorem dX1_yearsUntilFailure_48 : decode cX1_yearsUntilFailure 48 = .ok (.goto (-46), 3) := by decide +kernel
theorem dX1_yearsUntilFailure_51 : decode cX1_yearsUntilFailure 51 = .ok (.aload_n 1, 1) := by decide +kernel
theorem dX1_yearsUntilFailure_52 : decode cX1_yearsUntilFailure 52 = .ok (.aload_n 0, 1) := by decide +kernel
theorem dX1_yearsUntilFailure_53 : decode cX1_yearsUntilFailure 53 = .ok (.getfield 126, 3) := by decide +kernel
theorem dX1_yearsUntilFailure_56 : decode cX1_yearsUntilFailure 56 = .ok (.aload_n 0, 1) := by decide +kernel
theorem dX1_yearsUntilFailure_57 : decode cX1_yearsUntilFailure 57 = .ok (.getfield 129, 3) := by decide +kernel
theorem dX1_yearsUntilFailure_60 : decode cX1_yearsUntilFailure 60 = .ok (.aload_n 0, 1) := by decide +kernel
theorem dX1_yearsUntilFailure_61 : decode cX1_yearsUntilFailure 61 = .ok (.getfield 132, 3) := by decide +kernel
theorem dX1_yearsUntilFailure_64 : decode cX1_yearsUntilFailure 64 = .ok (.invokevirtual 135, 3) := by decide +kernel
theorem dX1_yearsUntilFailure_67 : decode cX1_yearsUntilFailure 67 = .ok (.ifCond .eq 8, 3) := by decide +kernel
theorem dX1_yearsUntilFailure_70 : decode cX1_yearsUntilFailure 70 = .ok (.bipush 60, 2) := by decide +kernel
theorem dX1_yearsUntilFailure_72 : decode cX1_yearsUntilFailure 72 = .ok (.goto 5, 3) := by decide +kernel
theorem dX1_yearsUntilFailure_75 : decode cX1_yearsUntilFailure 75 = .ok (.bipush 61, 2) := by decide +kernel
theorem dX1_yearsUntilFailure_77 : decode cX1_yearsUntilFailure 77 = .ok (.ireturn, 1) := by decide +kernel
theorem dX1_takeYear_0 : decode cX1_takeYear 0 = .ok (.lload_n 1, 1) := by decide +kernel
theorem dX1_takeYear_1 : decode cX1_takeYear 1 = .ok (.aload_n 0, 1) := by decide +kernel
theorem dX1_takeYear_2 : decode cX1_takeYear 2 = .ok (.getfield 126, 3) := by decide +kernel
theorem dX1_takeYear_5 : decode cX1_takeYear 5 = .ok (.invokestatic 139, 3) := by decide +kernel
theorem dX1_takeYear_8 : decode cX1_takeYear 8 = .ok (.lstore 4, 2) := by decide +kernel
theorem dX1_takeYear_10 : decode cX1_takeYear 10 = .ok (.lconst 1, 1) := by decide +kernel
theorem dX1_takeYear_11 : decode cX1_takeYear 11 = .ok (.aload_n 0, 1) := by decide +kernel
theorem dX1_takeYear_12 : decode cX1_takeYear 12 = .ok (.getfield 132, 3) := by decide +kernel
theorem dX1_takeYear_15 : decode cX1_takeYear 15 = .ok (.i2l, 1) := by decide +kernel
theorem dX1_takeYear_16 : decode cX1_takeYear 16 = .ok (.aload_n 0, 1) := by decide +kernel
theorem dX1_takeYear_17 : decode cX1_takeYear 17 = .ok (.getfield 132, 3) := by decide +kernel
theorem dX1_takeYear_20 : decode cX1_takeYear 20 = .ok (.i2l, 1) := by decide +kernel
theorem dX1_takeYear_21 : decode cX1_takeYear 21 = .ok (.lmul, 1) := by decide +kernel
theorem dX1_takeYear_22 : decode cX1_takeYear 22 = .ok (.invokestatic 143, 3) := by decide +kernel
theorem dX1_takeYear_25 : decode cX1_takeYear 25 = .ok (.lstore 6, 2) := by decide +kernel
theorem dX1_takeYear_27 : decode cX1_takeYear 27 = .ok (.aload_n 0, 1) := by decide +kernel
theorem dX1_takeYear_28 : decode cX1_takeYear 28 = .ok (.ldc2_w 147, 3) := by decide +kernel
theorem dX1_takeYear_31 : decode cX1_takeYear 31 = .ok (.aload_n 0, 1) := by decide +kernel
theorem dX1_takeYear_32 : decode cX1_takeYear 32 = .ok (.getfield 126, 3) := by decide +kernel
theorem dX1_takeYear_35 : decode cX1_takeYear 35 = .ok (.i2l, 1) := by decide +kernel
theorem dX1_takeYear_36 : decode cX1_takeYear 36 = .ok (.lload 4, 2) := by decide +kernel
theorem dX1_takeYear_38 : decode cX1_takeYear 38 = .ok (.iload_n 3, 1) := by decide +kernel
theorem dX1_takeYear_39 : decode cX1_takeYear 39 = .ok (.i2l, 1) := by decide +kernel
theorem dX1_takeYear_40 : decode cX1_takeYear 40 = .ok (.lmul, 1) := by decide +kernel
theorem dX1_takeYear_41 : decode cX1_takeYear 41 = .ok (.lload 6, 2) := by decide +kernel
theorem dX1_takeYear_43 : decode cX1_takeYear 43 = .ok (.ldiv, 1) := by decide +kernel
theorem dX1_takeYear_44 : decode cX1_takeYear 44 = .ok (.ladd, 1) := by decide +kernel
theorem dX1_takeYear_45 : decode cX1_takeYear 45 = .ok (.invokestatic 149, 3) := by decide +kernel
theorem dX1_takeYear_48 : decode cX1_takeYear 48 = .ok (.l2i, 1) := by decide +kernel
theorem dX1_takeYear_49 : decode cX1_takeYear 49 = .ok (.putfield 126, 3) := by decide +kernel
theorem dX1_takeYear_52 : decode cX1_takeYear 52 = .ok (.aload_n 0, 1) := by decide +kernel
theorem dX1_takeYear_53 : decode cX1_takeYear 53 = .ok (.dup, 1) := by decide +kernel
theorem dX1_takeYear_54 : decode cX1_takeYear 54 = .ok (.getfield 129, 3) := by decide +kernel
theorem dX1_takeYear_57 : decode cX1_takeYear 57 = .ok (.lload 4, 2) := by decide +kernel
theorem dX1_takeYear_59 : decode cX1_takeYear 59 = .ok (.ladd, 1) := by decide +kernel
theorem dX1_takeYear_60 : decode cX1_takeYear 60 = .ok (.putfield 129, 3) := by decide +kernel
theorem dX1_takeYear_63 : decode cX1_takeYear 63 = .ok (.return_, 1) := by decide +kernel
theorem dX2_init_0 : decode cX2_init 0 = .ok (.aload_n 0, 1) := by decide +kernel
theorem dX2_init_1 : decode cX2_init 1 = .ok (.invokespecial 3, 3) := by decide +kernel
theorem dX2_init_4 : decode cX2_init 4 = .ok (.aload_n 0, 1) := by decide +kernel
theorem dX2_init_5 : decode cX2_init 5 = .ok (.bipush 8, 2) := by decide +kernel
theorem dX2_init_7 : decode cX2_init 7 = .ok (.anewarray 9, 3) := by decide +kernel
theorem dX2_init_10 : decode cX2_init 10 = .ok (.putfield 11, 3) := by decide +kernel
theorem dX2_init_13 : decode cX2_init 13 = .ok (.iconst 0, 1) := by decide +kernel
theorem dX2_init_14 : decode cX2_init 14 = .ok (.istore_n 1, 1) := by decide +kernel
theorem dX2_init_15 : decode cX2_init 15 = .ok (.iload_n 1, 1) := by decide +kernel
theorem dX2_init_16 : decode cX2_init 16 = .ok (.bipush 8, 2) := by decide +kernel
theorem dX2_init_18 : decode cX2_init 18 = .ok (.if_icmp .ge 22, 3) := by decide +kernel
theorem dX2_init_21 : decode cX2_init 21 = .ok (.aload_n 0, 1) := by decide +kernel
theorem dX2_init_22 : decode cX2_init 22 = .ok (.getfield 11, 3) := by decide +kernel
theorem dX2_init_25 : decode cX2_init 25 = .ok (.iload_n 1, 1) := by decide +kernel
theorem dX2_init_26 : decode cX2_init 26 = .ok (.new 9, 3) := by decide +kernel
theorem dX2_init_29 : decode cX2_init 29 = .ok (.dup, 1) := by decide +kernel
theorem dX2_init_30 : decode cX2_init 30 = .ok (.invokespecial 17, 3) := by decide +kernel
theorem dX2_init_33 : decode cX2_init 33 = .ok (.aastore, 1) := by decide +kernel
theorem dX2_init_34 : decode cX2_init 34 = .ok (.iinc 1 1, 3) := by decide +kernel
theorem dX2_init_37 : decode cX2_init 37 = .ok (.goto (-22), 3) := by decide +kernel
theorem dX2_init_40 : decode cX2_init 40 = .ok (.return_, 1) := by decide +kernel
theorem dX2_forget_0 : decode cX2_forget 0 = .ok (.aload_n 0, 1) := by decide +kernel
theorem dX2_forget_1 : decode cX2_forget 1 = .ok (.iconst 0, 1) := by decide +kernel
theorem dX2_forget_2 : decode cX2_forget 2 = .ok (.putfield 18, 3) := by decide +kernel
theorem dX2_forget_5 : decode cX2_forget 5 = .ok (.return_, 1) := by decide +kernel
theorem dX2_keep_0 : decode cX2_keep 0 = .ok (.aload_n 0, 1) := by decide +kernel
theorem dX2_keep_1 : decode cX2_keep 1 = .ok (.getfield 18, 3) := by decide +kernel
theorem dX2_keep_4 : decode cX2_keep 4 = .ok (.bipush 8, 2) := by decide +kernel
theorem dX2_keep_6 : decode cX2_keep 6 = .ok (.if_icmp .ne 26, 3) := by decide +kernel
theorem dX2_keep_9 : decode cX2_keep 9 = .ok (.aload_n 0, 1) := by decide +kernel
theorem dX2_keep_10 : decode cX2_keep 10 = .ok (.aload_n 0, 1) := by decide +kernel
theorem dX2_keep_11 : decode cX2_keep 11 = .ok (.getfield 22, 3) := by decide +kernel
theorem dX2_keep_14 : decode cX2_keep 14 = .ok (.iconst 1, 1) := by decide +kernel
theorem dX2_keep_15 : decode cX2_keep 15 = .ok (.iadd, 1) := by decide +kernel
theorem dX2_keep_16 : decode cX2_keep 16 = .ok (.bipush 8, 2) := by decide +kernel
theorem dX2_keep_18 : decode cX2_keep 18 = .ok (.irem, 1) := by decide +kernel
theorem dX2_keep_19 : decode cX2_keep 19 = .ok (.putfield 22, 3) := by decide +kernel
theorem dX2_keep_22 : decode cX2_keep 22 = .ok (.aload_n 0, 1) := by decide +kernel
theorem dX2_keep_23 : decode cX2_keep 23 = .ok (.dup, 1) := by decide +kernel
theorem dX2_keep_24 : decode cX2_keep 24 = .ok (.getfield 18, 3) := by decide +kernel
theorem dX2_keep_27 : decode cX2_keep 27 = .ok (.iconst 1, 1) := by decide +kernel
theorem dX2_keep_28 : decode cX2_keep 28 = .ok (.isub, 1) := by decide +kernel
theorem dX2_keep_29 : decode cX2_keep 29 = .ok (.putfield 18, 3) := by decide +kernel
theorem dX2_keep_32 : decode cX2_keep 32 = .ok (.aload_n 0, 1) := by decide +kernel
theorem dX2_keep_33 : decode cX2_keep 33 = .ok (.getfield 11, 3) := by decide +kernel
theorem dX2_keep_36 : decode cX2_keep 36 = .ok (.aload_n 0, 1) := by decide +kernel
theorem dX2_keep_37 : decode cX2_keep 37 = .ok (.getfield 22, 3) := by decide +kernel
theorem dX2_keep_40 : decode cX2_keep 40 = .ok (.aload_n 0, 1) := by decide +kernel
theorem dX2_keep_41 : decode cX2_keep 41 = .ok (.getfield 18, 3) := by decide +kernel
theorem dX2_keep_44 : decode cX2_keep 44 = .ok (.iadd, 1) := by decide +kernel
theorem dX2_keep_45 : decode cX2_keep 45 = .ok (.bipush 8, 2) := by decide +kernel
theorem dX2_keep_47 : decode cX2_keep 47 = .ok (.irem, 1) := by decide +kernel
theorem dX2_keep_48 : decode cX2_keep 48 = .ok (.aaload, 1) := by decide +kernel
theorem dX2_keep_49 : decode cX2_keep 49 = .ok (.aload_n 1, 1) := by decide +kernel
theorem dX2_keep_50 : decode cX2_keep 50 = .ok (.invokevirtual 25, 3) := by decide +kernel
theorem dX2_keep_53 : decode cX2_keep 53 = .ok (.aload_n 0, 1) := by decide +kernel
theorem dX2_keep_54 : decode cX2_keep 54 = .ok (.dup, 1) := by decide +kernel
theorem dX2_keep_55 : decode cX2_keep 55 = .ok (.getfield 18, 3) := by decide +kernel
theorem dX2_keep_58 : decode cX2_keep 58 = .ok (.iconst 1, 1) := by decide +kernel
theorem dX2_keep_59 : decode cX2_keep 59 = .ok (.iadd, 1) := by decide +kernel
theorem dX2_keep_60 : decode cX2_keep 60 = .ok (.putfield 18, 3) := by decide +kernel
theorem dX2_keep_63 : decode cX2_keep 63 = .ok (.return_, 1) := by decide +kernel
theorem dX2_takeBack_0 : decode cX2_takeBack 0 = .ok (.aload_n 0, 1) := by decide +kernel
theorem dX2_takeBack_1 : decode cX2_takeBack 1 = .ok (.dup, 1) := by decide +kernel
theorem dX2_takeBack_2 : decode cX2_takeBack 2 = .ok (.getfield 18, 3) := by decide +kernel
theorem dX2_takeBack_5 : decode cX2_takeBack 5 = .ok (.iconst 1, 1) := by decide +kernel
theorem dX2_takeBack_6 : decode cX2_takeBack 6 = .ok (.isub, 1) := by decide +kernel
theorem dX2_takeBack_7 : decode cX2_takeBack 7 = .ok (.putfield 18, 3) := by decide +kernel
theorem dX2_takeBack_10 : decode cX2_takeBack 10 = .ok (.aload_n 1, 1) := by decide +kernel
theorem dX2_takeBack_11 : decode cX2_takeBack 11 = .ok (.aload_n 0, 1) := by decide +kernel
theorem dX2_takeBack_12 : decode cX2_takeBack 12 = .ok (.getfield 11, 3) := by decide +kernel
theorem dX2_takeBack_15 : decode cX2_takeBack 15 = .ok (.aload_n 0, 1) := by decide +kernel
theorem dX2_takeBack_16 : decode cX2_takeBack 16 = .ok (.getfield 22, 3) := by decide +kernel
theorem dX2_takeBack_19 : decode cX2_takeBack 19 = .ok (.aload_n 0, 1) := by decide +kernel
theorem dX2_takeBack_20 : decode cX2_takeBack 20 = .ok (.getfield 18, 3) := by decide +kernel
theorem dX2_takeBack_23 : decode cX2_takeBack 23 = .ok (.iadd, 1) := by decide +kernel
theorem dX2_takeBack_24 : decode cX2_takeBack 24 = .ok (.bipush 8, 2) := by decide +kernel
theorem dX2_takeBack_26 : decode cX2_takeBack 26 = .ok (.irem, 1) := by decide +kernel
theorem dX2_takeBack_27 : decode cX2_takeBack 27 = .ok (.aaload, 1) := by decide +kernel
theorem dX2_takeBack_28 : decode cX2_takeBack 28 = .ok (.invokevirtual 25, 3) := by decide +kernel
theorem dX2_takeBack_31 : decode cX2_takeBack 31 = .ok (.return_, 1) := by decide +kernel
theorem dX3_init_0 : decode cX3_init 0 = .ok (.aload_n 0, 1) := by decide +kernel
theorem dX3_init_1 : decode cX3_init 1 = .ok (.invokespecial 3, 3) := by decide +kernel
theorem dX3_init_4 : decode cX3_init 4 = .ok (.aload_n 0, 1) := by decide +kernel
theorem dX3_init_5 : decode cX3_init 5 = .ok (.bipush 60, 2) := by decide +kernel
theorem dX3_init_7 : decode cX3_init 7 = .ok (.newarray .int, 2) := by decide +kernel
theorem dX3_init_9 : decode cX3_init 9 = .ok (.putfield 11, 3) := by decide +kernel
theorem dX3_init_12 : decode cX3_init 12 = .ok (.return_, 1) := by decide +kernel
theorem dX3_copyFrom_0 : decode cX3_copyFrom 0 = .ok (.aload_n 0, 1) := by decide +kernel
theorem dX3_copyFrom_1 : decode cX3_copyFrom 1 = .ok (.aload_n 1, 1) := by decide +kernel
theorem dX3_copyFrom_2 : decode cX3_copyFrom 2 = .ok (.getfield 15, 3) := by decide +kernel
theorem dX3_copyFrom_5 : decode cX3_copyFrom 5 = .ok (.putfield 15, 3) := by decide +kernel
theorem dX3_copyFrom_8 : decode cX3_copyFrom 8 = .ok (.aload_n 1, 1) := by decide +kernel
theorem dX3_copyFrom_9 : decode cX3_copyFrom 9 = .ok (.getfield 11, 3) := by decide +kernel
theorem dX3_copyFrom_12 : decode cX3_copyFrom 12 = .ok (.iconst 0, 1) := by decide +kernel
theorem dX3_copyFrom_13 : decode cX3_copyFrom 13 = .ok (.aload_n 0, 1) := by decide +kernel
theorem dX3_copyFrom_14 : decode cX3_copyFrom 14 = .ok (.getfield 11, 3) := by decide +kernel
theorem dX3_copyFrom_17 : decode cX3_copyFrom 17 = .ok (.iconst 0, 1) := by decide +kernel
theorem dX3_copyFrom_18 : decode cX3_copyFrom 18 = .ok (.aload_n 0, 1) := by decide +kernel
theorem dX3_copyFrom_19 : decode cX3_copyFrom 19 = .ok (.getfield 11, 3) := by decide +kernel
theorem dX3_copyFrom_22 : decode cX3_copyFrom 22 = .ok (.arraylength, 1) := by decide +kernel
theorem dX3_copyFrom_23 : decode cX3_copyFrom 23 = .ok (.invokestatic 19, 3) := by decide +kernel
theorem dX3_copyFrom_26 : decode cX3_copyFrom 26 = .ok (.return_, 1) := by decide +kernel
theorem dX3_numberOf_0 : decode cX3_numberOf 0 = .ok (.aload_n 0, 1) := by decide +kernel
theorem dX3_numberOf_1 : decode cX3_numberOf 1 = .ok (.getfield 11, 3) := by decide +kernel
theorem dX3_numberOf_4 : decode cX3_numberOf 4 = .ok (.iload_n 1, 1) := by decide +kernel
theorem dX3_numberOf_5 : decode cX3_numberOf 5 = .ok (.bipush 6, 2) := by decide +kernel
theorem dX3_numberOf_7 : decode cX3_numberOf 7 = .ok (.imul, 1) := by decide +kernel
theorem dX3_numberOf_8 : decode cX3_numberOf 8 = .ok (.iload_n 2, 1) := by decide +kernel
theorem dX3_numberOf_9 : decode cX3_numberOf 9 = .ok (.iadd, 1) := by decide +kernel
theorem dX3_numberOf_10 : decode cX3_numberOf 10 = .ok (.iaload, 1) := by decide +kernel
theorem dX3_numberOf_11 : decode cX3_numberOf 11 = .ok (.ireturn, 1) := by decide +kernel
theorem dX3_putCount_0 : decode cX3_putCount 0 = .ok (.aload_n 0, 1) := by decide +kernel
theorem dX3_putCount_1 : decode cX3_putCount 1 = .ok (.getfield 11, 3) := by decide +kernel
theorem dX3_putCount_4 : decode cX3_putCount 4 = .ok (.iload_n 1, 1) := by decide +kernel
theorem dX3_putCount_5 : decode cX3_putCount 5 = .ok (.bipush 6, 2) := by decide +kernel
theorem dX3_putCount_7 : decode cX3_putCount 7 = .ok (.imul, 1) := by decide +kernel
theorem dX3_putCount_8 : decode cX3_putCount 8 = .ok (.iconst 4, 1) := by decide +kernel
theorem dX3_putCount_9 : decode cX3_putCount 9 = .ok (.iadd, 1) := by decide +kernel
theorem dX3_putCount_10 : decode cX3_putCount 10 = .ok (.iload_n 2, 1) := by decide +kernel
theorem dX3_putCount_11 : decode cX3_putCount 11 = .ok (.iastore, 1) := by decide +kernel
theorem dX3_putCount_12 : decode cX3_putCount 12 = .ok (.return_, 1) := by decide +kernel
theorem dX3_put_0 : decode cX3_put 0 = .ok (.aload_n 0, 1) := by decide +kernel
theorem dX3_put_1 : decode cX3_put 1 = .ok (.getfield 15, 3) := by decide +kernel
theorem dX3_put_4 : decode cX3_put 4 = .ok (.bipush 6, 2) := by decide +kernel
theorem dX3_put_6 : decode cX3_put 6 = .ok (.imul, 1) := by decide +kernel
theorem dX3_put_7 : decode cX3_put 7 = .ok (.istore 7, 2) := by decide +kernel
theorem dX3_put_9 : decode cX3_put 9 = .ok (.aload_n 0, 1) := by decide +kernel
theorem dX3_put_10 : decode cX3_put 10 = .ok (.getfield 11, 3) := by decide +kernel
theorem dX3_put_13 : decode cX3_put 13 = .ok (.iload 7, 2) := by decide +kernel
theorem dX3_put_15 : decode cX3_put 15 = .ok (.iconst 0, 1) := by decide +kernel
theorem dX3_put_16 : decode cX3_put 16 = .ok (.iadd, 1) := by decide +kernel
theorem dX3_put_17 : decode cX3_put 17 = .ok (.iload_n 1, 1) := by decide +kernel
theorem dX3_put_18 : decode cX3_put 18 = .ok (.iastore, 1) := by decide +kernel
theorem dX3_put_19 : decode cX3_put 19 = .ok (.aload_n 0, 1) := by decide +kernel
theorem dX3_put_20 : decode cX3_put 20 = .ok (.getfield 11, 3) := by decide +kernel
theorem dX3_put_23 : decode cX3_put 23 = .ok (.iload 7, 2) := by decide +kernel
theorem dX3_put_25 : decode cX3_put 25 = .ok (.iconst 1, 1) := by decide +kernel
theorem dX3_put_26 : decode cX3_put 26 = .ok (.iadd, 1) := by decide +kernel
theorem dX3_put_27 : decode cX3_put 27 = .ok (.iload_n 2, 1) := by decide +kernel
theorem dX3_put_28 : decode cX3_put 28 = .ok (.iastore, 1) := by decide +kernel
theorem dX3_put_29 : decode cX3_put 29 = .ok (.aload_n 0, 1) := by decide +kernel
theorem dX3_put_30 : decode cX3_put 30 = .ok (.getfield 11, 3) := by decide +kernel
theorem dX3_put_33 : decode cX3_put 33 = .ok (.iload 7, 2) := by decide +kernel
theorem dX3_put_35 : decode cX3_put 35 = .ok (.iconst 2, 1) := by decide +kernel
theorem dX3_put_36 : decode cX3_put 36 = .ok (.iadd, 1) := by decide +kernel
theorem dX3_put_37 : decode cX3_put 37 = .ok (.iload_n 3, 1) := by decide +kernel
theorem dX3_put_38 : decode cX3_put 38 = .ok (.iastore, 1) := by decide +kernel
theorem dX3_put_39 : decode cX3_put 39 = .ok (.aload_n 0, 1) := by decide +kernel
theorem dX3_put_40 : decode cX3_put 40 = .ok (.getfield 11, 3) := by decide +kernel
theorem dX3_put_43 : decode cX3_put 43 = .ok (.iload 7, 2) := by decide +kernel
theorem dX3_put_45 : decode cX3_put 45 = .ok (.iconst 3, 1) := by decide +kernel
theorem dX3_put_46 : decode cX3_put 46 = .ok (.iadd, 1) := by decide +kernel
theorem dX3_put_47 : decode cX3_put 47 = .ok (.iload 4, 2) := by decide +kernel
theorem dX3_put_49 : decode cX3_put 49 = .ok (.iastore, 1) := by decide +kernel
theorem dX3_put_50 : decode cX3_put 50 = .ok (.aload_n 0, 1) := by decide +kernel
theorem dX3_put_51 : decode cX3_put 51 = .ok (.getfield 11, 3) := by decide +kernel
theorem dX3_put_54 : decode cX3_put 54 = .ok (.iload 7, 2) := by decide +kernel
theorem dX3_put_56 : decode cX3_put 56 = .ok (.iconst 4, 1) := by decide +kernel
theorem dX3_put_57 : decode cX3_put 57 = .ok (.iadd, 1) := by decide +kernel
theorem dX3_put_58 : decode cX3_put 58 = .ok (.iload 5, 2) := by decide +kernel
theorem dX3_put_60 : decode cX3_put 60 = .ok (.iastore, 1) := by decide +kernel
theorem dX3_put_61 : decode cX3_put 61 = .ok (.aload_n 0, 1) := by decide +kernel
theorem dX3_put_62 : decode cX3_put 62 = .ok (.getfield 11, 3) := by decide +kernel
theorem dX3_put_65 : decode cX3_put 65 = .ok (.iload 7, 2) := by decide +kernel
theorem dX3_put_67 : decode cX3_put 67 = .ok (.iconst 5, 1) := by decide +kernel
theorem dX3_put_68 : decode cX3_put 68 = .ok (.iadd, 1) := by decide +kernel
theorem dX3_put_69 : decode cX3_put 69 = .ok (.iload 6, 2) := by decide +kernel
theorem dX3_put_71 : decode cX3_put 71 = .ok (.iastore, 1) := by decide +kernel
theorem dX3_put_72 : decode cX3_put 72 = .ok (.aload_n 0, 1) := by decide +kernel
theorem dX3_put_73 : decode cX3_put 73 = .ok (.dup, 1) := by decide +kernel
theorem dX3_put_74 : decode cX3_put 74 = .ok (.getfield 15, 3) := by decide +kernel
theorem dX3_put_77 : decode cX3_put 77 = .ok (.iconst 1, 1) := by decide +kernel
theorem dX3_put_78 : decode cX3_put 78 = .ok (.iadd, 1) := by decide +kernel
theorem dX3_put_79 : decode cX3_put 79 = .ok (.putfield 15, 3) := by decide +kernel
theorem dX3_put_82 : decode cX3_put 82 = .ok (.aload_n 0, 1) := by decide +kernel
theorem dX3_put_83 : decode cX3_put 83 = .ok (.getfield 15, 3) := by decide +kernel
theorem dX3_put_86 : decode cX3_put 86 = .ok (.iconst 1, 1) := by decide +kernel
theorem dX3_put_87 : decode cX3_put 87 = .ok (.isub, 1) := by decide +kernel
theorem dX3_put_88 : decode cX3_put 88 = .ok (.ireturn, 1) := by decide +kernel
theorem dX3_remove_0 : decode cX3_remove 0 = .ok (.aload_n 0, 1) := by decide +kernel
theorem dX3_remove_1 : decode cX3_remove 1 = .ok (.getfield 15, 3) := by decide +kernel
theorem dX3_remove_4 : decode cX3_remove 4 = .ok (.iload_n 1, 1) := by decide +kernel
theorem dX3_remove_5 : decode cX3_remove 5 = .ok (.isub, 1) := by decide +kernel
theorem dX3_remove_6 : decode cX3_remove 6 = .ok (.iconst 1, 1) := by decide +kernel
theorem dX3_remove_7 : decode cX3_remove 7 = .ok (.isub, 1) := by decide +kernel
theorem dX3_remove_8 : decode cX3_remove 8 = .ok (.istore_n 2, 1) := by decide +kernel
theorem dX3_remove_9 : decode cX3_remove 9 = .ok (.aload_n 0, 1) := by decide +kernel
theorem dX3_remove_10 : decode cX3_remove 10 = .ok (.getfield 11, 3) := by decide +kernel
theorem dX3_remove_13 : decode cX3_remove 13 = .ok (.iload_n 1, 1) := by decide +kernel
theorem dX3_remove_14 : decode cX3_remove 14 = .ok (.iconst 1, 1) := by decide +kernel
theorem dX3_remove_15 : decode cX3_remove 15 = .ok (.iadd, 1) := by decide +kernel
theorem dX3_remove_16 : decode cX3_remove 16 = .ok (.bipush 6, 2) := by decide +kernel
theorem dX3_remove_18 : decode cX3_remove 18 = .ok (.imul, 1) := by decide +kernel
theorem dX3_remove_19 : decode cX3_remove 19 = .ok (.aload_n 0, 1) := by decide +kernel
theorem dX3_remove_20 : decode cX3_remove 20 = .ok (.getfield 11, 3) := by decide +kernel
theorem dX3_remove_23 : decode cX3_remove 23 = .ok (.iload_n 1, 1) := by decide +kernel
theorem dX3_remove_24 : decode cX3_remove 24 = .ok (.bipush 6, 2) := by decide +kernel
theorem dX3_remove_26 : decode cX3_remove 26 = .ok (.imul, 1) := by decide +kernel
theorem dX3_remove_27 : decode cX3_remove 27 = .ok (.iload_n 2, 1) := by decide +kernel
theorem dX3_remove_28 : decode cX3_remove 28 = .ok (.bipush 6, 2) := by decide +kernel
theorem dX3_remove_30 : decode cX3_remove 30 = .ok (.imul, 1) := by decide +kernel
theorem dX3_remove_31 : decode cX3_remove 31 = .ok (.invokestatic 19, 3) := by decide +kernel
theorem dX3_remove_34 : decode cX3_remove 34 = .ok (.aload_n 0, 1) := by decide +kernel
theorem dX3_remove_35 : decode cX3_remove 35 = .ok (.dup, 1) := by decide +kernel
theorem dX3_remove_36 : decode cX3_remove 36 = .ok (.getfield 15, 3) := by decide +kernel
theorem dX3_remove_39 : decode cX3_remove 39 = .ok (.iconst 1, 1) := by decide +kernel
theorem dX3_remove_40 : decode cX3_remove 40 = .ok (.isub, 1) := by decide +kernel
theorem dX3_remove_41 : decode cX3_remove 41 = .ok (.putfield 15, 3) := by decide +kernel
theorem dX3_remove_44 : decode cX3_remove 44 = .ok (.return_, 1) := by decide +kernel
theorem dX3_hasStation_0 : decode cX3_hasStation 0 = .ok (.iload_n 2, 1) := by decide +kernel
theorem dX3_hasStation_1 : decode cX3_hasStation 1 = .ok (.aload_n 0, 1) := by decide +kernel
theorem dX3_hasStation_2 : decode cX3_hasStation 2 = .ok (.iload_n 1, 1) := by decide +kernel
theorem dX3_hasStation_3 : decode cX3_hasStation 3 = .ok (.iconst 1, 1) := by decide +kernel
theorem dX3_hasStation_4 : decode cX3_hasStation 4 = .ok (.invokevirtual 25, 3) := by decide +kernel
theorem dX3_hasStation_7 : decode cX3_hasStation 7 = .ok (.if_icmp .lt 17, 3) := by decide +kernel
theorem dX3_hasStation_10 : decode cX3_hasStation 10 = .ok (.iload_n 2, 1) := by decide +kernel
theorem dX3_hasStation_11 : decode cX3_hasStation 11 = .ok (.aload_n 0, 1) := by decide +kernel
theorem dX3_hasStation_12 : decode cX3_hasStation 12 = .ok (.iload_n 1, 1) := by decide +kernel
theorem dX3_hasStation_13 : decode cX3_hasStation 13 = .ok (.iconst 2, 1) := by decide +kernel
theorem dX3_hasStation_14 : decode cX3_hasStation 14 = .ok (.invokevirtual 25, 3) := by decide +kernel
theorem dX3_hasStation_17 : decode cX3_hasStation 17 = .ok (.if_icmp .gt 7, 3) := by decide +kernel
theorem dX3_hasStation_20 : decode cX3_hasStation 20 = .ok (.iconst 1, 1) := by decide +kernel
theorem dX3_hasStation_21 : decode cX3_hasStation 21 = .ok (.goto 4, 3) := by decide +kernel
theorem dX3_hasStation_24 : decode cX3_hasStation 24 = .ok (.iconst 0, 1) := by decide +kernel
theorem dX3_hasStation_25 : decode cX3_hasStation 25 = .ok (.ireturn, 1) := by decide +kernel
theorem dX3_countAfter_0 : decode cX3_countAfter 0 = .ok (.aload_n 0, 1) := by decide +kernel
theorem dX3_countAfter_1 : decode cX3_countAfter 1 = .ok (.iload_n 1, 1) := by decide +kernel
theorem dX3_countAfter_2 : decode cX3_countAfter 2 = .ok (.iconst 4, 1) := by decide +kernel
theorem dX3_countAfter_3 : decode cX3_countAfter 3 = .ok (.invokevirtual 25, 3) := by decide +kernel
theorem dX3_countAfter_6 : decode cX3_countAfter 6 = .ok (.istore_n 3, 1) := by decide +kernel
theorem dX3_countAfter_7 : decode cX3_countAfter 7 = .ok (.aload_n 0, 1) := by decide +kernel
theorem dX3_countAfter_8 : decode cX3_countAfter 8 = .ok (.iload_n 1, 1) := by decide +kernel
theorem dX3_countAfter_9 : decode cX3_countAfter 9 = .ok (.iconst 5, 1) := by decide +kernel
theorem dX3_countAfter_10 : decode cX3_countAfter 10 = .ok (.invokevirtual 25, 3) := by decide +kernel
theorem dX3_countAfter_13 : decode cX3_countAfter 13 = .ok (.istore 4, 2) := by decide +kernel
theorem dX3_countAfter_15 : decode cX3_countAfter 15 = .ok (.iconst 0, 1) := by decide +kernel
theorem dX3_countAfter_16 : decode cX3_countAfter 16 = .ok (.istore 5, 2) := by decide +kernel
theorem dX3_countAfter_18 : decode cX3_countAfter 18 = .ok (.iload 5, 2) := by decide +kernel
theorem dX3_countAfter_20 : decode cX3_countAfter 20 = .ok (.iload_n 2, 1) := by decide +kernel
theorem dX3_countAfter_21 : decode cX3_countAfter 21 = .ok (.if_icmp .ge 16, 3) := by decide +kernel
theorem dX3_countAfter_24 : decode cX3_countAfter 24 = .ok (.iload_n 3, 1) := by decide +kernel
theorem dX3_countAfter_25 : decode cX3_countAfter 25 = .ok (.iload 4, 2) := by decide +kernel
theorem dX3_countAfter_27 : decode cX3_countAfter 27 = .ok (.invokestatic 29, 3) := by decide +kernel
theorem dX3_countAfter_30 : decode cX3_countAfter 30 = .ok (.istore_n 3, 1) := by decide +kernel
theorem dX3_countAfter_31 : decode cX3_countAfter 31 = .ok (.iinc 5 1, 3) := by decide +kernel
theorem dX3_countAfter_34 : decode cX3_countAfter 34 = .ok (.goto (-16), 3) := by decide +kernel
theorem dX3_countAfter_37 : decode cX3_countAfter 37 = .ok (.iload_n 3, 1) := by decide +kernel
theorem dX3_countAfter_38 : decode cX3_countAfter 38 = .ok (.ireturn, 1) := by decide +kernel
theorem dX3_grown_0 : decode cX3_grown 0 = .ok (.ldc 32, 2) := by decide +kernel
theorem dX3_grown_2 : decode cX3_grown 2 = .ok (.iload_n 0, 1) := by decide +kernel
theorem dX3_grown_3 : decode cX3_grown 3 = .ok (.iload_n 0, 1) := by decide +kernel
theorem dX3_grown_4 : decode cX3_grown 4 = .ok (.iload_n 1, 1) := by decide +kernel
theorem dX3_grown_5 : decode cX3_grown 5 = .ok (.imul, 1) := by decide +kernel
theorem dX3_grown_6 : decode cX3_grown 6 = .ok (.bipush 100, 2) := by decide +kernel
theorem dX3_grown_8 : decode cX3_grown 8 = .ok (.idiv, 1) := by decide +kernel
theorem dX3_grown_9 : decode cX3_grown 9 = .ok (.iadd, 1) := by decide +kernel
theorem dX3_grown_10 : decode cX3_grown 10 = .ok (.invokestatic 33, 3) := by decide +kernel
theorem dX3_grown_13 : decode cX3_grown 13 = .ok (.ireturn, 1) := by decide +kernel
theorem dX3_raised_0 : decode cX3_raised 0 = .ok (.ldc2_w 38, 3) := by decide +kernel
theorem dX3_raised_3 : decode cX3_raised 3 = .ok (.iload_n 0, 1) := by decide +kernel
theorem dX3_raised_4 : decode cX3_raised 4 = .ok (.i2l, 1) := by decide +kernel
theorem dX3_raised_5 : decode cX3_raised 5 = .ok (.bipush 100, 2) := by decide +kernel
theorem dX3_raised_7 : decode cX3_raised 7 = .ok (.iload_n 1, 1) := by decide +kernel
theorem dX3_raised_8 : decode cX3_raised 8 = .ok (.iadd, 1) := by decide +kernel
theorem dX3_raised_9 : decode cX3_raised 9 = .ok (.i2l, 1) := by decide +kernel
theorem dX3_raised_10 : decode cX3_raised 10 = .ok (.lmul, 1) := by decide +kernel
theorem dX3_raised_11 : decode cX3_raised 11 = .ok (.ldc2_w 40, 3) := by decide +kernel
theorem dX3_raised_14 : decode cX3_raised 14 = .ok (.ldiv, 1) := by decide +kernel
theorem dX3_raised_15 : decode cX3_raised 15 = .ok (.invokestatic 42, 3) := by decide +kernel
theorem dX3_raised_18 : decode cX3_raised 18 = .ok (.l2i, 1) := by decide +kernel
theorem dX3_raised_19 : decode cX3_raised 19 = .ok (.ireturn, 1) := by decide +kernel
theorem dX3_shareBy_0 : decode cX3_shareBy 0 = .ok (.iload_n 1, 1) := by decide +kernel
theorem dX3_shareBy_1 : decode cX3_shareBy 1 = .ok (.i2l, 1) := by decide +kernel
theorem dX3_shareBy_2 : decode cX3_shareBy 2 = .ok (.iload_n 1, 1) := by decide +kernel
theorem dX3_shareBy_3 : decode cX3_shareBy 3 = .ok (.i2l, 1) := by decide +kernel
theorem dX3_shareBy_4 : decode cX3_shareBy 4 = .ok (.lmul, 1) := by decide +kernel
theorem dX3_shareBy_5 : decode cX3_shareBy 5 = .ok (.lstore_n 2, 1) := by decide +kernel
theorem dX3_shareBy_6 : decode cX3_shareBy 6 = .ok (.iload_n 0, 1) := by decide +kernel
theorem dX3_shareBy_7 : decode cX3_shareBy 7 = .ok (.i2l, 1) := by decide +kernel
theorem dX3_shareBy_8 : decode cX3_shareBy 8 = .ok (.lload_n 2, 1) := by decide +kernel
theorem dX3_shareBy_9 : decode cX3_shareBy 9 = .ok (.lmul, 1) := by decide +kernel
theorem dX3_shareBy_10 : decode cX3_shareBy 10 = .ok (.lload_n 2, 1) := by decide +kernel
theorem dX3_shareBy_11 : decode cX3_shareBy 11 = .ok (.lmul, 1) := by decide +kernel
theorem dX3_shareBy_12 : decode cX3_shareBy 12 = .ok (.ldc2_w 45, 3) := by decide +kernel
theorem dX3_shareBy_15 : decode cX3_shareBy 15 = .ok (.ldiv, 1) := by decide +kernel
theorem dX3_shareBy_16 : decode cX3_shareBy 16 = .ok (.lreturn, 1) := by decide +kernel
theorem dX4_init_0 : decode cX4_init 0 = .ok (.aload_n 0, 1) := by decide +kernel
theorem dX4_init_1 : decode cX4_init 1 = .ok (.invokespecial 3, 3) := by decide +kernel
theorem dX4_init_4 : decode cX4_init 4 = .ok (.aload_n 0, 1) := by decide +kernel
theorem dX4_init_5 : decode cX4_init 5 = .ok (.sipush 256, 3) := by decide +kernel
theorem dX4_init_8 : decode cX4_init 8 = .ok (.newarray .byte, 2) := by decide +kernel
theorem dX4_init_10 : decode cX4_init 10 = .ok (.putfield 9, 3) := by decide +kernel
theorem dX4_init_13 : decode cX4_init 13 = .ok (.return_, 1) := by decide +kernel
theorem dX4_putSign_0 : decode cX4_putSign 0 = .ok (.aload_n 0, 1) := by decide +kernel
theorem dX4_putSign_1 : decode cX4_putSign 1 = .ok (.getfield 15, 3) := by decide +kernel
theorem dX4_putSign_4 : decode cX4_putSign 4 = .ok (.sipush 256, 3) := by decide +kernel
theorem dX4_putSign_7 : decode cX4_putSign 7 = .ok (.if_icmp .ge 24, 3) := by decide +kernel
theorem dX4_putSign_10 : decode cX4_putSign 10 = .ok (.aload_n 0, 1) := by decide +kernel
theorem dX4_putSign_11 : decode cX4_putSign 11 = .ok (.getfield 9, 3) := by decide +kernel
theorem dX4_putSign_14 : decode cX4_putSign 14 = .ok (.aload_n 0, 1) := by decide +kernel
theorem dX4_putSign_15 : decode cX4_putSign 15 = .ok (.getfield 15, 3) := by decide +kernel
theorem dX4_putSign_18 : decode cX4_putSign 18 = .ok (.iload_n 1, 1) := by decide +kernel
theorem dX4_putSign_19 : decode cX4_putSign 19 = .ok (.i2b, 1) := by decide +kernel
theorem dX4_putSign_20 : decode cX4_putSign 20 = .ok (.bastore, 1) := by decide +kernel
theorem dX4_putSign_21 : decode cX4_putSign 21 = .ok (.aload_n 0, 1) := by decide +kernel
theorem dX4_putSign_22 : decode cX4_putSign 22 = .ok (.dup, 1) := by decide +kernel
theorem dX4_putSign_23 : decode cX4_putSign 23 = .ok (.getfield 15, 3) := by decide +kernel
theorem dX4_putSign_26 : decode cX4_putSign 26 = .ok (.iconst 1, 1) := by decide +kernel
theorem dX4_putSign_27 : decode cX4_putSign 27 = .ok (.iadd, 1) := by decide +kernel
theorem dX4_putSign_28 : decode cX4_putSign 28 = .ok (.putfield 15, 3) := by decide +kernel
theorem dX4_putSign_31 : decode cX4_putSign 31 = .ok (.return_, 1) := by decide +kernel
theorem dX4_separate_0 : decode cX4_separate 0 = .ok (.iload_n 1, 1) := by decide +kernel
theorem dX4_separate_1 : decode cX4_separate 1 = .ok (.ifCond .le 8, 3) := by decide +kernel
theorem dX4_separate_4 : decode cX4_separate 4 = .ok (.aload_n 0, 1) := by decide +kernel
theorem dX4_separate_5 : decode cX4_separate 5 = .ok (.iload_n 2, 1) := by decide +kernel
theorem dX4_separate_6 : decode cX4_separate 6 = .ok (.invokevirtual 19, 3) := by decide +kernel
theorem dX4_separate_9 : decode cX4_separate 9 = .ok (.return_, 1) := by decide +kernel
theorem dX4_putNumber_0 : decode cX4_putNumber 0 = .ok (.ldc 23, 2) := by decide +kernel
theorem dX4_putNumber_2 : decode cX4_putNumber 2 = .ok (.istore_n 2, 1) := by decide +kernel
theorem dX4_putNumber_3 : decode cX4_putNumber 3 = .ok (.iload_n 2, 1) := by decide +kernel
theorem dX4_putNumber_4 : decode cX4_putNumber 4 = .ok (.ifCond .le 35, 3) := by decide +kernel
theorem dX4_putNumber_7 : decode cX4_putNumber 7 = .ok (.iload_n 1, 1) := by decide +kernel
theorem dX4_putNumber_8 : decode cX4_putNumber 8 = .ok (.iload_n 2, 1) := by decide +kernel
theorem dX4_putNumber_9 : decode cX4_putNumber 9 = .ok (.if_icmp .ge 8, 3) := by decide +kernel
theorem dX4_putNumber_12 : decode cX4_putNumber 12 = .ok (.iload_n 2, 1) := by decide +kernel
theorem dX4_putNumber_13 : decode cX4_putNumber 13 = .ok (.iconst 1, 1) := by decide +kernel
theorem dX4_putNumber_14 : decode cX4_putNumber 14 = .ok (.if_icmp .ne 17, 3) := by decide +kernel
theorem dX4_putNumber_17 : decode cX4_putNumber 17 = .ok (.aload_n 0, 1) := by decide +kernel
theorem dX4_putNumber_18 : decode cX4_putNumber 18 = .ok (.bipush 48, 2) := by decide +kernel
theorem dX4_putNumber_20 : decode cX4_putNumber 20 = .ok (.iload_n 1, 1) := by decide +kernel
theorem dX4_putNumber_21 : decode cX4_putNumber 21 = .ok (.iload_n 2, 1) := by decide +kernel
theorem dX4_putNumber_22 : decode cX4_putNumber 22 = .ok (.idiv, 1) := by decide +kernel
theorem dX4_putNumber_23 : decode cX4_putNumber 23 = .ok (.bipush 10, 2) := by decide +kernel
theorem dX4_putNumber_25 : decode cX4_putNumber 25 = .ok (.irem, 1) := by decide +kernel
theorem dX4_putNumber_26 : decode cX4_putNumber 26 = .ok (.iadd, 1) := by decide +kernel
theorem dX4_putNumber_27 : decode cX4_putNumber 27 = .ok (.i2c, 1) := by decide +kernel
theorem dX4_putNumber_28 : decode cX4_putNumber 28 = .ok (.invokevirtual 19, 3) := by decide +kernel
theorem dX4_putNumber_31 : decode cX4_putNumber 31 = .ok (.iload_n 2, 1) := by decide +kernel
theorem dX4_putNumber_32 : decode cX4_putNumber 32 = .ok (.bipush 10, 2) := by decide +kernel
theorem dX4_putNumber_34 : decode cX4_putNumber 34 = .ok (.idiv, 1) := by decide +kernel
theorem dX4_putNumber_35 : decode cX4_putNumber 35 = .ok (.istore_n 2, 1) := by decide +kernel
theorem dX4_putNumber_36 : decode cX4_putNumber 36 = .ok (.goto (-33), 3) := by decide +kernel
theorem dX4_putNumber_39 : decode cX4_putNumber 39 = .ok (.return_, 1) := by decide +kernel
theorem dX5_init_0 : decode cX5_init 0 = .ok (.aload_n 0, 1) := by decide +kernel
theorem dX5_init_1 : decode cX5_init 1 = .ok (.invokespecial 3, 3) := by decide +kernel
theorem dX5_init_4 : decode cX5_init 4 = .ok (.return_, 1) := by decide +kernel
theorem dX5_costOf_0 : decode cX5_costOf 0 = .ok (.iload_n 2, 1) := by decide +kernel
theorem dX5_costOf_1 : decode cX5_costOf 1 = .ok (.iconst 1, 1) := by decide +kernel
theorem dX5_costOf_2 : decode cX5_costOf 2 = .ok (.if_icmp .ne 23, 3) := by decide +kernel
theorem dX5_costOf_5 : decode cX5_costOf 5 = .ok (.aload_n 1, 1) := by decide +kernel
theorem dX5_costOf_6 : decode cX5_costOf 6 = .ok (.getfield 9, 3) := by decide +kernel
theorem dX5_costOf_9 : decode cX5_costOf 9 = .ok (.iconst 3, 1) := by decide +kernel
theorem dX5_costOf_10 : decode cX5_costOf 10 = .ok (.iaload, 1) := by decide +kernel
theorem dX5_costOf_11 : decode cX5_costOf 11 = .ok (.aload_n 1, 1) := by decide +kernel
theorem dX5_costOf_12 : decode cX5_costOf 12 = .ok (.getfield 15, 3) := by decide +kernel
theorem dX5_costOf_15 : decode cX5_costOf 15 = .ok (.iload_n 3, 1) := by decide +kernel
theorem dX5_costOf_16 : decode cX5_costOf 16 = .ok (.iaload, 1) := by decide +kernel
theorem dX5_costOf_17 : decode cX5_costOf 17 = .ok (.bipush 9, 2) := by decide +kernel
theorem dX5_costOf_19 : decode cX5_costOf 19 = .ok (.iadd, 1) := by decide +kernel
theorem dX5_costOf_20 : decode cX5_costOf 20 = .ok (.bipush 10, 2) := by decide +kernel
theorem dX5_costOf_22 : decode cX5_costOf 22 = .ok (.idiv, 1) := by decide +kernel
theorem dX5_costOf_23 : decode cX5_costOf 23 = .ok (.imul, 1) := by decide +kernel
theorem dX5_costOf_24 : decode cX5_costOf 24 = .ok (.ireturn, 1) := by decide +kernel
theorem dX5_costOf_25 : decode cX5_costOf 25 = .ok (.iload_n 2, 1) := by decide +kernel
theorem dX5_costOf_26 : decode cX5_costOf 26 = .ok (.iconst 2, 1) := by decide +kernel
theorem dX5_costOf_27 : decode cX5_costOf 27 = .ok (.if_icmp .ne 19, 3) := by decide +kernel
theorem dX5_costOf_30 : decode cX5_costOf 30 = .ok (.aload_n 1, 1) := by decide +kernel
theorem dX5_costOf_31 : decode cX5_costOf 31 = .ok (.getfield 9, 3) := by decide +kernel
theorem dX5_costOf_34 : decode cX5_costOf 34 = .ok (.iconst 4, 1) := by decide +kernel
theorem dX5_costOf_35 : decode cX5_costOf 35 = .ok (.iaload, 1) := by decide +kernel
theorem dX5_costOf_36 : decode cX5_costOf 36 = .ok (.iload 4, 2) := by decide +kernel
theorem dX5_costOf_38 : decode cX5_costOf 38 = .ok (.bipush 9, 2) := by decide +kernel
theorem dX5_costOf_40 : decode cX5_costOf 40 = .ok (.iadd, 1) := by decide +kernel
theorem dX5_costOf_41 : decode cX5_costOf 41 = .ok (.bipush 10, 2) := by decide +kernel
theorem dX5_costOf_43 : decode cX5_costOf 43 = .ok (.idiv, 1) := by decide +kernel
theorem dX5_costOf_44 : decode cX5_costOf 44 = .ok (.imul, 1) := by decide +kernel
theorem dX5_costOf_45 : decode cX5_costOf 45 = .ok (.ireturn, 1) := by decide +kernel
theorem dX5_costOf_46 : decode cX5_costOf 46 = .ok (.aload_n 1, 1) := by decide +kernel
theorem dX5_costOf_47 : decode cX5_costOf 47 = .ok (.getfield 9, 3) := by decide +kernel
theorem dX5_costOf_50 : decode cX5_costOf 50 = .ok (.iconst 5, 1) := by decide +kernel
theorem dX5_costOf_51 : decode cX5_costOf 51 = .ok (.iaload, 1) := by decide +kernel
theorem dX5_costOf_52 : decode cX5_costOf 52 = .ok (.ireturn, 1) := by decide +kernel
theorem dX5_refusal_0 : decode cX5_refusal 0 = .ok (.aload_n 0, 1) := by decide +kernel
theorem dX5_refusal_1 : decode cX5_refusal 1 = .ok (.aload_n 1, 1) := by decide +kernel
theorem dX5_refusal_2 : decode cX5_refusal 2 = .ok (.iload_n 2, 1) := by decide +kernel
theorem dX5_refusal_3 : decode cX5_refusal 3 = .ok (.iload_n 3, 1) := by decide +kernel
theorem dX5_refusal_4 : decode cX5_refusal 4 = .ok (.iload 4, 2) := by decide +kernel
theorem dX5_refusal_6 : decode cX5_refusal 6 = .ok (.invokevirtual 18, 3) := by decide +kernel
theorem dX5_refusal_9 : decode cX5_refusal 9 = .ok (.aload_n 1, 1) := by decide +kernel
theorem dX5_refusal_10 : decode cX5_refusal 10 = .ok (.getfield 9, 3) := by decide +kernel
theorem dX5_refusal_13 : decode cX5_refusal 13 = .ok (.bipush 6, 2) := by decide +kernel
theorem dX5_refusal_15 : decode cX5_refusal 15 = .ok (.iaload, 1) := by decide +kernel
theorem dX5_refusal_16 : decode cX5_refusal 16 = .ok (.if_icmp .le 7, 3) := by decide +kernel
theorem dX5_refusal_19 : decode cX5_refusal 19 = .ok (.iconst 1, 1) := by decide +kernel
theorem dX5_refusal_20 : decode cX5_refusal 20 = .ok (.goto 12, 3) := by decide +kernel
theorem dX5_refusal_23 : decode cX5_refusal 23 = .ok (.aload_n 0, 1) := by decide +kernel
theorem dX5_refusal_24 : decode cX5_refusal 24 = .ok (.aload_n 1, 1) := by decide +kernel
theorem dX5_refusal_25 : decode cX5_refusal 25 = .ok (.iload_n 2, 1) := by decide +kernel
theorem dX5_refusal_26 : decode cX5_refusal 26 = .ok (.iload_n 3, 1) := by decide +kernel
theorem dX5_refusal_27 : decode cX5_refusal 27 = .ok (.iload 4, 2) := by decide +kernel
theorem dX5_refusal_29 : decode cX5_refusal 29 = .ok (.invokevirtual 24, 3) := by decide +kernel
theorem dX5_refusal_32 : decode cX5_refusal 32 = .ok (.ireturn, 1) := by decide +kernel
theorem dX5_refusalUnpaid_0 : decode cX5_refusalUnpaid 0 = .ok (.iload_n 2, 1) := by decide +kernel
theorem dX5_refusalUnpaid_1 : decode cX5_refusalUnpaid 1 = .ok (.iconst 1, 1) := by decide +kernel
theorem dX5_refusalUnpaid_2 : decode cX5_refusalUnpaid 2 = .ok (.if_icmp .ne 18, 3) := by decide +kernel
theorem dX5_refusalUnpaid_5 : decode cX5_refusalUnpaid 5 = .ok (.aload_n 1, 1) := by decide +kernel
theorem dX5_refusalUnpaid_6 : decode cX5_refusalUnpaid 6 = .ok (.getfield 15, 3) := by decide +kernel
theorem dX5_refusalUnpaid_9 : decode cX5_refusalUnpaid 9 = .ok (.iload_n 3, 1) := by decide +kernel
theorem dX5_refusalUnpaid_10 : decode cX5_refusalUnpaid 10 = .ok (.iaload, 1) := by decide +kernel
theorem dX5_refusalUnpaid_11 : decode cX5_refusalUnpaid 11 = .ok (.ifCond .ne 7, 3) := by decide +kernel
theorem dX5_refusalUnpaid_14 : decode cX5_refusalUnpaid 14 = .ok (.iconst 2, 1) := by decide +kernel
theorem dX5_refusalUnpaid_15 : decode cX5_refusalUnpaid 15 = .ok (.goto 4, 3) := by decide +kernel
theorem dX5_refusalUnpaid_18 : decode cX5_refusalUnpaid 18 = .ok (.iconst 0, 1) := by decide +kernel
theorem dX5_refusalUnpaid_19 : decode cX5_refusalUnpaid 19 = .ok (.ireturn, 1) := by decide +kernel
theorem dX5_refusalUnpaid_20 : decode cX5_refusalUnpaid 20 = .ok (.iload_n 2, 1) := by decide +kernel
theorem dX5_refusalUnpaid_21 : decode cX5_refusalUnpaid 21 = .ok (.iconst 2, 1) := by decide +kernel
theorem dX5_refusalUnpaid_22 : decode cX5_refusalUnpaid 22 = .ok (.if_icmp .ne 24, 3) := by decide +kernel
theorem dX5_refusalUnpaid_25 : decode cX5_refusalUnpaid 25 = .ok (.aload_n 1, 1) := by decide +kernel
theorem dX5_refusalUnpaid_26 : decode cX5_refusalUnpaid 26 = .ok (.getfield 27, 3) := by decide +kernel
theorem dX5_refusalUnpaid_29 : decode cX5_refusalUnpaid 29 = .ok (.iload_n 3, 1) := by decide +kernel
theorem dX5_refusalUnpaid_30 : decode cX5_refusalUnpaid 30 = .ok (.iaload, 1) := by decide +kernel
theorem dX5_refusalUnpaid_31 : decode cX5_refusalUnpaid 31 = .ok (.iload 4, 2) := by decide +kernel
theorem dX5_refusalUnpaid_33 : decode cX5_refusalUnpaid 33 = .ok (.iadd, 1) := by decide +kernel
theorem dX5_refusalUnpaid_34 : decode cX5_refusalUnpaid 34 = .ok (.sipush 300, 3) := by decide +kernel
theorem dX5_refusalUnpaid_37 : decode cX5_refusalUnpaid 37 = .ok (.if_icmp .le 7, 3) := by decide +kernel
theorem dX5_refusalUnpaid_40 : decode cX5_refusalUnpaid 40 = .ok (.iconst 3, 1) := by decide +kernel
theorem dX5_refusalUnpaid_41 : decode cX5_refusalUnpaid 41 = .ok (.goto 4, 3) := by decide +kernel
theorem dX5_refusalUnpaid_44 : decode cX5_refusalUnpaid 44 = .ok (.iconst 0, 1) := by decide +kernel
theorem dX5_refusalUnpaid_45 : decode cX5_refusalUnpaid 45 = .ok (.ireturn, 1) := by decide +kernel
theorem dX5_refusalUnpaid_46 : decode cX5_refusalUnpaid 46 = .ok (.aload_n 1, 1) := by decide +kernel
theorem dX5_refusalUnpaid_47 : decode cX5_refusalUnpaid 47 = .ok (.getfield 27, 3) := by decide +kernel
theorem dX5_refusalUnpaid_50 : decode cX5_refusalUnpaid 50 = .ok (.iload_n 3, 1) := by decide +kernel
theorem dX5_refusalUnpaid_51 : decode cX5_refusalUnpaid 51 = .ok (.iaload, 1) := by decide +kernel
theorem dX5_refusalUnpaid_52 : decode cX5_refusalUnpaid 52 = .ok (.ifCond .ne 27, 3) := by decide +kernel
theorem dX5_refusalUnpaid_55 : decode cX5_refusalUnpaid 55 = .ok (.aload_n 1, 1) := by decide +kernel
theorem dX5_refusalUnpaid_56 : decode cX5_refusalUnpaid 56 = .ok (.getfield 15, 3) := by decide +kernel
theorem dX5_refusalUnpaid_59 : decode cX5_refusalUnpaid 59 = .ok (.iload_n 3, 1) := by decide +kernel
theorem dX5_refusalUnpaid_60 : decode cX5_refusalUnpaid 60 = .ok (.iaload, 1) := by decide +kernel
theorem dX5_refusalUnpaid_61 : decode cX5_refusalUnpaid 61 = .ok (.ifCond .ne 18, 3) := by decide +kernel
theorem dX5_refusalUnpaid_64 : decode cX5_refusalUnpaid 64 = .ok (.aload_n 1, 1) := by decide +kernel
theorem dX5_refusalUnpaid_65 : decode cX5_refusalUnpaid 65 = .ok (.getfield 30, 3) := by decide +kernel
theorem dX5_refusalUnpaid_68 : decode cX5_refusalUnpaid 68 = .ok (.iload_n 3, 1) := by decide +kernel
theorem dX5_refusalUnpaid_69 : decode cX5_refusalUnpaid 69 = .ok (.laload, 1) := by decide +kernel
theorem dX5_refusalUnpaid_70 : decode cX5_refusalUnpaid 70 = .ok (.lconst 0, 1) := by decide +kernel
theorem dX5_refusalUnpaid_71 : decode cX5_refusalUnpaid 71 = .ok (.lcmp, 1) := by decide +kernel
theorem dX5_refusalUnpaid_72 : decode cX5_refusalUnpaid 72 = .ok (.ifCond .ne 7, 3) := by decide +kernel
theorem dX5_refusalUnpaid_75 : decode cX5_refusalUnpaid 75 = .ok (.iconst 1, 1) := by decide +kernel
theorem dX5_refusalUnpaid_76 : decode cX5_refusalUnpaid 76 = .ok (.goto 4, 3) := by decide +kernel
theorem dX5_refusalUnpaid_79 : decode cX5_refusalUnpaid 79 = .ok (.iconst 0, 1) := by decide +kernel
theorem dX5_refusalUnpaid_80 : decode cX5_refusalUnpaid 80 = .ok (.istore 5, 2) := by decide +kernel
theorem dX5_refusalUnpaid_82 : decode cX5_refusalUnpaid 82 = .ok (.aload_n 1, 1) := by decide +kernel
theorem dX5_refusalUnpaid_83 : decode cX5_refusalUnpaid 83 = .ok (.iload_n 3, 1) := by decide +kernel
theorem dX5_refusalUnpaid_84 : decode cX5_refusalUnpaid 84 = .ok (.invokevirtual 34, 3) := by decide +kernel
theorem dX5_refusalUnpaid_87 : decode cX5_refusalUnpaid 87 = .ok (.ifCond .eq 12, 3) := by decide +kernel
theorem dX5_refusalUnpaid_90 : decode cX5_refusalUnpaid 90 = .ok (.iload 5, 2) := by decide +kernel
theorem dX5_refusalUnpaid_92 : decode cX5_refusalUnpaid 92 = .ok (.ifCond .eq 7, 3) := by decide +kernel
theorem dX5_refusalUnpaid_95 : decode cX5_refusalUnpaid 95 = .ok (.iconst 4, 1) := by decide +kernel
theorem dX5_refusalUnpaid_96 : decode cX5_refusalUnpaid 96 = .ok (.goto 4, 3) := by decide +kernel
theorem dX5_refusalUnpaid_99 : decode cX5_refusalUnpaid 99 = .ok (.iconst 0, 1) := by decide +kernel
theorem dX5_refusalUnpaid_100 : decode cX5_refusalUnpaid 100 = .ok (.ireturn, 1) := by decide +kernel
theorem dX5_apply_0 : decode cX5_apply 0 = .ok (.aload_n 0, 1) := by decide +kernel
theorem dX5_apply_1 : decode cX5_apply 1 = .ok (.aload_n 1, 1) := by decide +kernel
theorem dX5_apply_2 : decode cX5_apply 2 = .ok (.iload_n 2, 1) := by decide +kernel
theorem dX5_apply_3 : decode cX5_apply 3 = .ok (.iload_n 3, 1) := by decide +kernel
theorem dX5_apply_4 : decode cX5_apply 4 = .ok (.iload 4, 2) := by decide +kernel
theorem dX5_apply_6 : decode cX5_apply 6 = .ok (.invokevirtual 18, 3) := by decide +kernel
theorem dX5_apply_9 : decode cX5_apply 9 = .ok (.istore 5, 2) := by decide +kernel
theorem dX5_apply_11 : decode cX5_apply 11 = .ok (.aload_n 1, 1) := by decide +kernel
theorem dX5_apply_12 : decode cX5_apply 12 = .ok (.getfield 9, 3) := by decide +kernel
theorem dX5_apply_15 : decode cX5_apply 15 = .ok (.bipush 6, 2) := by decide +kernel
theorem dX5_apply_17 : decode cX5_apply 17 = .ok (.dup2, 1) := by decide +kernel
theorem dX5_apply_18 : decode cX5_apply 18 = .ok (.iaload, 1) := by decide +kernel
theorem dX5_apply_19 : decode cX5_apply 19 = .ok (.iload 5, 2) := by decide +kernel
theorem dX5_apply_21 : decode cX5_apply 21 = .ok (.isub, 1) := by decide +kernel
theorem dX5_apply_22 : decode cX5_apply 22 = .ok (.iastore, 1) := by decide +kernel
theorem dX5_apply_23 : decode cX5_apply 23 = .ok (.aload_n 1, 1) := by decide +kernel
theorem dX5_apply_24 : decode cX5_apply 24 = .ok (.getfield 38, 3) := by decide +kernel
theorem dX5_apply_27 : decode cX5_apply 27 = .ok (.iload_n 2, 1) := by decide +kernel
theorem dX5_apply_28 : decode cX5_apply 28 = .ok (.dup2, 1) := by decide +kernel
theorem dX5_apply_29 : decode cX5_apply 29 = .ok (.iaload, 1) := by decide +kernel
theorem dX5_apply_30 : decode cX5_apply 30 = .ok (.iload 5, 2) := by decide +kernel
theorem dX5_apply_32 : decode cX5_apply 32 = .ok (.iadd, 1) := by decide +kernel
theorem dX5_apply_33 : decode cX5_apply 33 = .ok (.iastore, 1) := by decide +kernel
theorem dX5_apply_34 : decode cX5_apply 34 = .ok (.aload_n 1, 1) := by decide +kernel
theorem dX5_apply_35 : decode cX5_apply 35 = .ok (.getfield 15, 3) := by decide +kernel
theorem dX5_apply_38 : decode cX5_apply 38 = .ok (.iload_n 3, 1) := by decide +kernel
theorem dX5_apply_39 : decode cX5_apply 39 = .ok (.iconst 0, 1) := by decide +kernel
theorem dX5_apply_40 : decode cX5_apply 40 = .ok (.iastore, 1) := by decide +kernel
theorem dX5_apply_41 : decode cX5_apply 41 = .ok (.iload_n 2, 1) := by decide +kernel
theorem dX5_apply_42 : decode cX5_apply 42 = .ok (.iconst 2, 1) := by decide +kernel
theorem dX5_apply_43 : decode cX5_apply 43 = .ok (.if_icmp .ne 14, 3) := by decide +kernel
theorem dX5_apply_46 : decode cX5_apply 46 = .ok (.aload_n 1, 1) := by decide +kernel
theorem dX5_apply_47 : decode cX5_apply 47 = .ok (.getfield 27, 3) := by decide +kernel
theorem dX5_apply_50 : decode cX5_apply 50 = .ok (.iload_n 3, 1) := by decide +kernel
theorem dX5_apply_51 : decode cX5_apply 51 = .ok (.dup2, 1) := by decide +kernel
theorem dX5_apply_52 : decode cX5_apply 52 = .ok (.iaload, 1) := by decide +kernel
theorem dX5_apply_53 : decode cX5_apply 53 = .ok (.iload 4, 2) := by decide +kernel
theorem dX5_apply_55 : decode cX5_apply 55 = .ok (.iadd, 1) := by decide +kernel
theorem dX5_apply_56 : decode cX5_apply 56 = .ok (.iastore, 1) := by decide +kernel
theorem dX5_apply_57 : decode cX5_apply 57 = .ok (.iload_n 2, 1) := by decide +kernel
theorem dX5_apply_58 : decode cX5_apply 58 = .ok (.iconst 3, 1) := by decide +kernel
theorem dX5_apply_59 : decode cX5_apply 59 = .ok (.if_icmp .ne 22, 3) := by decide +kernel
theorem dX5_apply_62 : decode cX5_apply 62 = .ok (.aload_n 1, 1) := by decide +kernel
theorem dX5_apply_63 : decode cX5_apply 63 = .ok (.getfield 27, 3) := by decide +kernel
theorem dX5_apply_66 : decode cX5_apply 66 = .ok (.iload_n 3, 1) := by decide +kernel
theorem dX5_apply_67 : decode cX5_apply 67 = .ok (.iconst 0, 1) := by decide +kernel
theorem dX5_apply_68 : decode cX5_apply 68 = .ok (.iastore, 1) := by decide +kernel
theorem dX5_apply_69 : decode cX5_apply 69 = .ok (.aload_n 1, 1) := by decide +kernel
theorem dX5_apply_70 : decode cX5_apply 70 = .ok (.getfield 30, 3) := by decide +kernel
theorem dX5_apply_73 : decode cX5_apply 73 = .ok (.iload_n 3, 1) := by decide +kernel
theorem dX5_apply_74 : decode cX5_apply 74 = .ok (.lconst 0, 1) := by decide +kernel
theorem dX5_apply_75 : decode cX5_apply 75 = .ok (.lastore, 1) := by decide +kernel
theorem dX5_apply_76 : decode cX5_apply 76 = .ok (.aload_n 1, 1) := by decide +kernel
theorem dX5_apply_77 : decode cX5_apply 77 = .ok (.iload_n 3, 1) := by decide +kernel
theorem dX5_apply_78 : decode cX5_apply 78 = .ok (.invokevirtual 41, 3) := by decide +kernel
theorem dX5_apply_81 : decode cX5_apply 81 = .ok (.iload 5, 2) := by decide +kernel
theorem dX5_apply_83 : decode cX5_apply 83 = .ok (.ireturn, 1) := by decide +kernel
theorem dX5_cheapestFor_0 : decode cX5_cheapestFor 0 = .ok (.aload_n 2, 1) := by decide +kernel
theorem dX5_cheapestFor_1 : decode cX5_cheapestFor 1 = .ok (.aload_n 1, 1) := by decide +kernel
theorem dX5_cheapestFor_2 : decode cX5_cheapestFor 2 = .ok (.iload_n 3, 1) := by decide +kernel
theorem dX5_cheapestFor_3 : decode cX5_cheapestFor 3 = .ok (.invokevirtual 45, 3) := by decide +kernel
theorem dX5_cheapestFor_6 : decode cX5_cheapestFor 6 = .ok (.iload 4, 2) := by decide +kernel
theorem dX5_cheapestFor_8 : decode cX5_cheapestFor 8 = .ok (.if_icmp .le 5, 3) := by decide +kernel
theorem dX5_cheapestFor_11 : decode cX5_cheapestFor 11 = .ok (.iconst 0, 1) := by decide +kernel
theorem dX5_cheapestFor_12 : decode cX5_cheapestFor 12 = .ok (.ireturn, 1) := by decide +kernel
theorem dX5_cheapestFor_13 : decode cX5_cheapestFor 13 = .ok (.iconst (-1), 1) := by decide +kernel
theorem dX5_cheapestFor_14 : decode cX5_cheapestFor 14 = .ok (.istore 5, 2) := by decide +kernel
theorem dX5_cheapestFor_16 : decode cX5_cheapestFor 16 = .ok (.iconst 0, 1) := by decide +kernel
theorem dX5_cheapestFor_17 : decode cX5_cheapestFor 17 = .ok (.istore 6, 2) := by decide +kernel
theorem dX5_cheapestFor_19 : decode cX5_cheapestFor 19 = .ok (.iconst 0, 1) := by decide +kernel
theorem dX5_cheapestFor_20 : decode cX5_cheapestFor 20 = .ok (.istore 7, 2) := by decide +kernel
theorem dX5_cheapestFor_22 : decode cX5_cheapestFor 22 = .ok (.iload 7, 2) := by decide +kernel
theorem dX5_cheapestFor_24 : decode cX5_cheapestFor 24 = .ok (.bipush 12, 2) := by decide +kernel
theorem dX5_cheapestFor_26 : decode cX5_cheapestFor 26 = .ok (.if_icmp .ge 113, 3) := by decide +kernel
theorem dX5_cheapestFor_29 : decode cX5_cheapestFor 29 = .ok (.iload 7, 2) := by decide +kernel
theorem dX5_cheapestFor_31 : decode cX5_cheapestFor 31 = .ok (.invokestatic 51, 3) := by decide +kernel
theorem dX5_cheapestFor_34 : decode cX5_cheapestFor 34 = .ok (.istore 8, 2) := by decide +kernel
theorem dX5_cheapestFor_36 : decode cX5_cheapestFor 36 = .ok (.iload 8, 2) := by decide +kernel
theorem dX5_cheapestFor_38 : decode cX5_cheapestFor 38 = .ok (.iconst 2, 1) := by decide +kernel
theorem dX5_cheapestFor_39 : decode cX5_cheapestFor 39 = .ok (.if_icmp .ne 11, 3) := by decide +kernel
theorem dX5_cheapestFor_42 : decode cX5_cheapestFor 42 = .ok (.iload 7, 2) := by decide +kernel
theorem dX5_cheapestFor_44 : decode cX5_cheapestFor 44 = .ok (.bipush 10, 2) := by decide +kernel
theorem dX5_cheapestFor_46 : decode cX5_cheapestFor 46 = .ok (.imul, 1) := by decide +kernel
theorem dX5_cheapestFor_47 : decode cX5_cheapestFor 47 = .ok (.goto 4, 3) := by decide +kernel
theorem dX5_cheapestFor_50 : decode cX5_cheapestFor 50 = .ok (.iconst 0, 1) := by decide +kernel
theorem dX5_cheapestFor_51 : decode cX5_cheapestFor 51 = .ok (.istore 9, 2) := by decide +kernel
theorem dX5_cheapestFor_53 : decode cX5_cheapestFor 53 = .ok (.aload_n 0, 1) := by decide +kernel
theorem dX5_cheapestFor_54 : decode cX5_cheapestFor 54 = .ok (.aload_n 1, 1) := by decide +kernel
theorem dX5_cheapestFor_55 : decode cX5_cheapestFor 55 = .ok (.iload 8, 2) := by decide +kernel
theorem dX5_cheapestFor_57 : decode cX5_cheapestFor 57 = .ok (.iload_n 3, 1) := by decide +kernel
theorem dX5_cheapestFor_58 : decode cX5_cheapestFor 58 = .ok (.iload 9, 2) := by decide +kernel
theorem dX5_cheapestFor_60 : decode cX5_cheapestFor 60 = .ok (.invokevirtual 18, 3) := by decide +kernel
theorem dX5_cheapestFor_63 : decode cX5_cheapestFor 63 = .ok (.istore 10, 2) := by decide +kernel
theorem dX5_cheapestFor_65 : decode cX5_cheapestFor 65 = .ok (.iload 5, 2) := by decide +kernel
theorem dX5_cheapestFor_67 : decode cX5_cheapestFor 67 = .ok (.iconst (-1), 1) := by decide +kernel
theorem dX5_cheapestFor_68 : decode cX5_cheapestFor 68 = .ok (.if_icmp .eq 10, 3) := by decide +kernel
theorem dX5_cheapestFor_71 : decode cX5_cheapestFor 71 = .ok (.iload 10, 2) := by decide +kernel
theorem dX5_cheapestFor_73 : decode cX5_cheapestFor 73 = .ok (.iload 6, 2) := by decide +kernel
theorem dX5_cheapestFor_75 : decode cX5_cheapestFor 75 = .ok (.if_icmp .ge 7, 3) := by decide +kernel
theorem dX5_cheapestFor_78 : decode cX5_cheapestFor 78 = .ok (.iconst 1, 1) := by decide +kernel
theorem dX5_cheapestFor_79 : decode cX5_cheapestFor 79 = .ok (.goto 4, 3) := by decide +kernel
theorem dX5_cheapestFor_82 : decode cX5_cheapestFor 82 = .ok (.iconst 0, 1) := by decide +kernel
theorem dX5_cheapestFor_83 : decode cX5_cheapestFor 83 = .ok (.istore 11, 2) := by decide +kernel
theorem dX5_cheapestFor_85 : decode cX5_cheapestFor 85 = .ok (.iload 11, 2) := by decide +kernel
theorem dX5_cheapestFor_87 : decode cX5_cheapestFor 87 = .ok (.ifCond .eq 46, 3) := by decide +kernel
theorem dX5_cheapestFor_90 : decode cX5_cheapestFor 90 = .ok (.aload_n 0, 1) := by decide +kernel
theorem dX5_cheapestFor_91 : decode cX5_cheapestFor 91 = .ok (.aload_n 1, 1) := by decide +kernel
theorem dX5_cheapestFor_92 : decode cX5_cheapestFor 92 = .ok (.iload 8, 2) := by decide +kernel
theorem dX5_cheapestFor_94 : decode cX5_cheapestFor 94 = .ok (.iload_n 3, 1) := by decide +kernel
theorem dX5_cheapestFor_95 : decode cX5_cheapestFor 95 = .ok (.iload 9, 2) := by decide +kernel
theorem dX5_cheapestFor_97 : decode cX5_cheapestFor 97 = .ok (.invokevirtual 24, 3) := by decide +kernel
theorem dX5_cheapestFor_100 : decode cX5_cheapestFor 100 = .ok (.ifCond .ne 33, 3) := by decide +kernel
theorem dX5_cheapestFor_103 : decode cX5_cheapestFor 103 = .ok (.aload_n 2, 1) := by decide +kernel
theorem dX5_cheapestFor_104 : decode cX5_cheapestFor 104 = .ok (.aload_n 1, 1) := by decide +kernel
theorem dX5_cheapestFor_105 : decode cX5_cheapestFor 105 = .ok (.iload 8, 2) := by decide +kernel
theorem dX5_cheapestFor_107 : decode cX5_cheapestFor 107 = .ok (.iload_n 3, 1) := by decide +kernel
theorem dX5_cheapestFor_108 : decode cX5_cheapestFor 108 = .ok (.iload 9, 2) := by decide +kernel
theorem dX5_cheapestFor_110 : decode cX5_cheapestFor 110 = .ok (.invokevirtual 55, 3) := by decide +kernel
theorem dX5_cheapestFor_113 : decode cX5_cheapestFor 113 = .ok (.iload 4, 2) := by decide +kernel
theorem dX5_cheapestFor_115 : decode cX5_cheapestFor 115 = .ok (.if_icmp .le 18, 3) := by decide +kernel
theorem dX5_cheapestFor_118 : decode cX5_cheapestFor 118 = .ok (.sipush 1000, 3) := by decide +kernel
theorem dX5_cheapestFor_121 : decode cX5_cheapestFor 121 = .ok (.iload 8, 2) := by decide +kernel
theorem dX5_cheapestFor_123 : decode cX5_cheapestFor 123 = .ok (.imul, 1) := by decide +kernel
theorem dX5_cheapestFor_124 : decode cX5_cheapestFor 124 = .ok (.iload 9, 2) := by decide +kernel
theorem dX5_cheapestFor_126 : decode cX5_cheapestFor 126 = .ok (.iadd, 1) := by decide +kernel
theorem dX5_cheapestFor_127 : decode cX5_cheapestFor 127 = .ok (.istore 5, 2) := by decide +kernel
theorem dX5_cheapestFor_129 : decode cX5_cheapestFor 129 = .ok (.iload 10, 2) := by decide +kernel
theorem dX5_cheapestFor_131 : decode cX5_cheapestFor 131 = .ok (.istore 6, 2) := by decide +kernel
theorem dX5_cheapestFor_133 : decode cX5_cheapestFor 133 = .ok (.iinc 7 1, 3) := by decide +kernel
theorem dX5_cheapestFor_136 : decode cX5_cheapestFor 136 = .ok (.goto (-114), 3) := by decide +kernel
theorem dX5_cheapestFor_139 : decode cX5_cheapestFor 139 = .ok (.iload 5, 2) := by decide +kernel
theorem dX5_cheapestFor_141 : decode cX5_cheapestFor 141 = .ok (.ireturn, 1) := by decide +kernel
theorem dX5_kindOfChoice_0 : decode cX5_kindOfChoice 0 = .ok (.iload_n 0, 1) := by decide +kernel
theorem dX5_kindOfChoice_1 : decode cX5_kindOfChoice 1 = .ok (.ifCond .ne 5, 3) := by decide +kernel
theorem dX5_kindOfChoice_4 : decode cX5_kindOfChoice 4 = .ok (.iconst 1, 1) := by decide +kernel
theorem dX5_kindOfChoice_5 : decode cX5_kindOfChoice 5 = .ok (.ireturn, 1) := by decide +kernel
theorem dX5_kindOfChoice_6 : decode cX5_kindOfChoice 6 = .ok (.iload_n 0, 1) := by decide +kernel
theorem dX5_kindOfChoice_7 : decode cX5_kindOfChoice 7 = .ok (.bipush 11, 2) := by decide +kernel
theorem dX5_kindOfChoice_9 : decode cX5_kindOfChoice 9 = .ok (.if_icmp .ne 7, 3) := by decide +kernel
theorem dX5_kindOfChoice_12 : decode cX5_kindOfChoice 12 = .ok (.iconst 3, 1) := by decide +kernel
theorem dX5_kindOfChoice_13 : decode cX5_kindOfChoice 13 = .ok (.goto 4, 3) := by decide +kernel
theorem dX5_kindOfChoice_16 : decode cX5_kindOfChoice 16 = .ok (.iconst 2, 1) := by decide +kernel
theorem dX5_kindOfChoice_17 : decode cX5_kindOfChoice 17 = .ok (.ireturn, 1) := by decide +kernel
theorem dX6_init_0 : decode cX6_init 0 = .ok (.aload_n 0, 1) := by decide +kernel
theorem dX6_init_1 : decode cX6_init 1 = .ok (.invokespecial 3, 3) := by decide +kernel
theorem dX6_init_4 : decode cX6_init 4 = .ok (.aload_n 0, 1) := by decide +kernel
theorem dX6_init_5 : decode cX6_init 5 = .ok (.bipush 7, 2) := by decide +kernel
theorem dX6_init_7 : decode cX6_init 7 = .ok (.newarray .int, 2) := by decide +kernel
theorem dX6_init_9 : decode cX6_init 9 = .ok (.putfield 9, 3) := by decide +kernel
theorem dX6_init_12 : decode cX6_init 12 = .ok (.aload_n 0, 1) := by decide +kernel
theorem dX6_init_13 : decode cX6_init 13 = .ok (.iconst 4, 1) := by decide +kernel
theorem dX6_init_14 : decode cX6_init 14 = .ok (.newarray .int, 2) := by decide +kernel
theorem dX6_init_16 : decode cX6_init 16 = .ok (.putfield 15, 3) := by decide +kernel
theorem dX6_init_19 : decode cX6_init 19 = .ok (.aload_n 0, 1) := by decide +kernel
theorem dX6_init_20 : decode cX6_init 20 = .ok (.bipush 64, 2) := by decide +kernel
theorem dX6_init_22 : decode cX6_init 22 = .ok (.newarray .int, 2) := by decide +kernel
theorem dX6_init_24 : decode cX6_init 24 = .ok (.putfield 18, 3) := by decide +kernel
theorem dX6_init_27 : decode cX6_init 27 = .ok (.aload_n 0, 1) := by decide +kernel
theorem dX6_init_28 : decode cX6_init 28 = .ok (.bipush 64, 2) := by decide +kernel
theorem dX6_init_30 : decode cX6_init 30 = .ok (.newarray .int, 2) := by decide +kernel
theorem dX6_init_32 : decode cX6_init 32 = .ok (.putfield 21, 3) := by decide +kernel
theorem dX6_init_35 : decode cX6_init 35 = .ok (.aload_n 0, 1) := by decide +kernel
theorem dX6_init_36 : decode cX6_init 36 = .ok (.bipush 64, 2) := by decide +kernel
theorem dX6_init_38 : decode cX6_init 38 = .ok (.newarray .long, 2) := by decide +kernel
theorem dX6_init_40 : decode cX6_init 40 = .ok (.putfield 24, 3) := by decide +kernel
theorem dX6_init_43 : decode cX6_init 43 = .ok (.aload_n 0, 1) := by decide +kernel
theorem dX6_init_44 : decode cX6_init 44 = .ok (.new 28, 3) := by decide +kernel
theorem dX6_init_47 : decode cX6_init 47 = .ok (.dup, 1) := by decide +kernel
theorem dX6_init_48 : decode cX6_init 48 = .ok (.invokespecial 30, 3) := by decide +kernel
theorem dX6_init_51 : decode cX6_init 51 = .ok (.putfield 31, 3) := by decide +kernel
theorem dX6_init_54 : decode cX6_init 54 = .ok (.aload_n 0, 1) := by decide +kernel
theorem dX6_init_55 : decode cX6_init 55 = .ok (.new 35, 3) := by decide +kernel
theorem dX6_init_58 : decode cX6_init 58 = .ok (.dup, 1) := by decide +kernel
theorem dX6_init_59 : decode cX6_init 59 = .ok (.invokespecial 37, 3) := by decide +kernel
theorem dX6_init_62 : decode cX6_init 62 = .ok (.putfield 38, 3) := by decide +kernel
theorem dX6_init_65 : decode cX6_init 65 = .ok (.aload_n 0, 1) := by decide +kernel
theorem dX6_init_66 : decode cX6_init 66 = .ok (.invokevirtual 42, 3) := by decide +kernel
theorem dX6_init_69 : decode cX6_init 69 = .ok (.return_, 1) := by decide +kernel
theorem dX6_reset_0 : decode cX6_reset 0 = .ok (.aload_n 0, 1) := by decide +kernel
theorem dX6_reset_1 : decode cX6_reset 1 = .ok (.iconst 0, 1) := by decide +kernel
theorem dX6_reset_2 : decode cX6_reset 2 = .ok (.putfield 45, 3) := by decide +kernel
theorem dX6_reset_5 : decode cX6_reset 5 = .ok (.aload_n 0, 1) := by decide +kernel
theorem dX6_reset_6 : decode cX6_reset 6 = .ok (.iconst 0, 1) := by decide +kernel
theorem dX6_reset_7 : decode cX6_reset 7 = .ok (.putfield 49, 3) := by decide +kernel
theorem dX6_reset_10 : decode cX6_reset 10 = .ok (.aload_n 0, 1) := by decide +kernel
theorem dX6_reset_11 : decode cX6_reset 11 = .ok (.iconst 0, 1) := by decide +kernel
theorem dX6_reset_12 : decode cX6_reset 12 = .ok (.putfield 52, 3) := by decide +kernel
theorem dX6_reset_15 : decode cX6_reset 15 = .ok (.aload_n 0, 1) := by decide +kernel
theorem dX6_reset_16 : decode cX6_reset 16 = .ok (.iconst 0, 1) := by decide +kernel
theorem dX6_reset_17 : decode cX6_reset 17 = .ok (.putfield 55, 3) := by decide +kernel
theorem dX6_reset_20 : decode cX6_reset 20 = .ok (.aload_n 0, 1) := by decide +kernel
theorem dX6_reset_21 : decode cX6_reset 21 = .ok (.lconst 0, 1) := by decide +kernel
theorem dX6_reset_22 : decode cX6_reset 22 = .ok (.putfield 58, 3) := by decide +kernel
theorem dX6_reset_25 : decode cX6_reset 25 = .ok (.getstatic 62, 3) := by decide +kernel
theorem dX6_reset_28 : decode cX6_reset 28 = .ok (.iconst 0, 1) := by decide +kernel
theorem dX6_reset_29 : decode cX6_reset 29 = .ok (.aload_n 0, 1) := by decide +kernel
theorem dX6_reset_30 : decode cX6_reset 30 = .ok (.getfield 9, 3) := by decide +kernel
theorem dX6_reset_33 : decode cX6_reset 33 = .ok (.iconst 0, 1) := by decide +kernel
theorem dX6_reset_34 : decode cX6_reset 34 = .ok (.bipush 7, 2) := by decide +kernel
theorem dX6_reset_36 : decode cX6_reset 36 = .ok (.invokestatic 65, 3) := by decide +kernel
theorem dX6_reset_39 : decode cX6_reset 39 = .ok (.aload_n 0, 1) := by decide +kernel
theorem dX6_reset_40 : decode cX6_reset 40 = .ok (.getfield 15, 3) := by decide +kernel
theorem dX6_reset_43 : decode cX6_reset 43 = .ok (.iconst 0, 1) := by decide +kernel
theorem dX6_reset_44 : decode cX6_reset 44 = .ok (.invokestatic 71, 3) := by decide +kernel
theorem dX6_reset_47 : decode cX6_reset 47 = .ok (.aload_n 0, 1) := by decide +kernel
theorem dX6_reset_48 : decode cX6_reset 48 = .ok (.getfield 18, 3) := by decide +kernel
theorem dX6_reset_51 : decode cX6_reset 51 = .ok (.iconst 0, 1) := by decide +kernel
theorem dX6_reset_52 : decode cX6_reset 52 = .ok (.invokestatic 71, 3) := by decide +kernel
theorem dX6_reset_55 : decode cX6_reset 55 = .ok (.aload_n 0, 1) := by decide +kernel
theorem dX6_reset_56 : decode cX6_reset 56 = .ok (.getfield 21, 3) := by decide +kernel
theorem dX6_reset_59 : decode cX6_reset 59 = .ok (.iconst 0, 1) := by decide +kernel
theorem dX6_reset_60 : decode cX6_reset 60 = .ok (.invokestatic 71, 3) := by decide +kernel
theorem dX6_reset_63 : decode cX6_reset 63 = .ok (.aload_n 0, 1) := by decide +kernel
theorem dX6_reset_64 : decode cX6_reset 64 = .ok (.getfield 24, 3) := by decide +kernel
theorem dX6_reset_67 : decode cX6_reset 67 = .ok (.lconst 0, 1) := by decide +kernel
theorem dX6_reset_68 : decode cX6_reset 68 = .ok (.invokestatic 77, 3) := by decide +kernel
theorem dX6_reset_71 : decode cX6_reset 71 = .ok (.aload_n 0, 1) := by decide +kernel
theorem dX6_reset_72 : decode cX6_reset 72 = .ok (.getfield 31, 3) := by decide +kernel
theorem dX6_reset_75 : decode cX6_reset 75 = .ok (.invokevirtual 80, 3) := by decide +kernel
theorem dX6_reset_78 : decode cX6_reset 78 = .ok (.aload_n 0, 1) := by decide +kernel
theorem dX6_reset_79 : decode cX6_reset 79 = .ok (.getfield 38, 3) := by decide +kernel
theorem dX6_reset_82 : decode cX6_reset 82 = .ok (.iconst 0, 1) := by decide +kernel
theorem dX6_reset_83 : decode cX6_reset 83 = .ok (.putfield 81, 3) := by decide +kernel
theorem dX6_reset_86 : decode cX6_reset 86 = .ok (.return_, 1) := by decide +kernel
theorem dX6_copyFrom_0 : decode cX6_copyFrom 0 = .ok (.aload_n 0, 1) := by decide +kernel
theorem dX6_copyFrom_1 : decode cX6_copyFrom 1 = .ok (.aload_n 1, 1) := by decide +kernel
theorem dX6_copyFrom_2 : decode cX6_copyFrom 2 = .ok (.getfield 45, 3) := by decide +kernel
theorem dX6_copyFrom_5 : decode cX6_copyFrom 5 = .ok (.putfield 45, 3) := by decide +kernel
theorem dX6_copyFrom_8 : decode cX6_copyFrom 8 = .ok (.aload_n 0, 1) := by decide +kernel
theorem dX6_copyFrom_9 : decode cX6_copyFrom 9 = .ok (.aload_n 1, 1) := by decide +kernel
theorem dX6_copyFrom_10 : decode cX6_copyFrom 10 = .ok (.getfield 49, 3) := by decide +kernel
theorem dX6_copyFrom_13 : decode cX6_copyFrom 13 = .ok (.putfield 49, 3) := by decide +kernel
theorem dX6_copyFrom_16 : decode cX6_copyFrom 16 = .ok (.aload_n 0, 1) := by decide +kernel
theorem dX6_copyFrom_17 : decode cX6_copyFrom 17 = .ok (.aload_n 1, 1) := by decide +kernel
theorem dX6_copyFrom_18 : decode cX6_copyFrom 18 = .ok (.getfield 52, 3) := by decide +kernel
theorem dX6_copyFrom_21 : decode cX6_copyFrom 21 = .ok (.putfield 52, 3) := by decide +kernel
theorem dX6_copyFrom_24 : decode cX6_copyFrom 24 = .ok (.aload_n 0, 1) := by decide +kernel
theorem dX6_copyFrom_25 : decode cX6_copyFrom 25 = .ok (.aload_n 1, 1) := by decide +kernel
theorem dX6_copyFrom_26 : decode cX6_copyFrom 26 = .ok (.getfield 55, 3) := by decide +kernel
theorem dX6_copyFrom_29 : decode cX6_copyFrom 29 = .ok (.putfield 55, 3) := by decide +kernel
theorem dX6_copyFrom_32 : decode cX6_copyFrom 32 = .ok (.aload_n 0, 1) := by decide +kernel
theorem dX6_copyFrom_33 : decode cX6_copyFrom 33 = .ok (.aload_n 1, 1) := by decide +kernel
theorem dX6_copyFrom_34 : decode cX6_copyFrom 34 = .ok (.getfield 58, 3) := by decide +kernel
theorem dX6_copyFrom_37 : decode cX6_copyFrom 37 = .ok (.putfield 58, 3) := by decide +kernel
theorem dX6_copyFrom_40 : decode cX6_copyFrom 40 = .ok (.aload_n 1, 1) := by decide +kernel
theorem dX6_copyFrom_41 : decode cX6_copyFrom 41 = .ok (.getfield 9, 3) := by decide +kernel
theorem dX6_copyFrom_44 : decode cX6_copyFrom 44 = .ok (.iconst 0, 1) := by decide +kernel
theorem dX6_copyFrom_45 : decode cX6_copyFrom 45 = .ok (.aload_n 0, 1) := by decide +kernel
theorem dX6_copyFrom_46 : decode cX6_copyFrom 46 = .ok (.getfield 9, 3) := by decide +kernel
theorem dX6_copyFrom_49 : decode cX6_copyFrom 49 = .ok (.iconst 0, 1) := by decide +kernel
theorem dX6_copyFrom_50 : decode cX6_copyFrom 50 = .ok (.aload_n 0, 1) := by decide +kernel
theorem dX6_copyFrom_51 : decode cX6_copyFrom 51 = .ok (.getfield 9, 3) := by decide +kernel
theorem dX6_copyFrom_54 : decode cX6_copyFrom 54 = .ok (.arraylength, 1) := by decide +kernel
theorem dX6_copyFrom_55 : decode cX6_copyFrom 55 = .ok (.invokestatic 65, 3) := by decide +kernel
theorem dX6_copyFrom_58 : decode cX6_copyFrom 58 = .ok (.aload_n 1, 1) := by decide +kernel
theorem dX6_copyFrom_59 : decode cX6_copyFrom 59 = .ok (.getfield 15, 3) := by decide +kernel
theorem dX6_copyFrom_62 : decode cX6_copyFrom 62 = .ok (.iconst 0, 1) := by decide +kernel
theorem dX6_copyFrom_63 : decode cX6_copyFrom 63 = .ok (.aload_n 0, 1) := by decide +kernel
theorem dX6_copyFrom_64 : decode cX6_copyFrom 64 = .ok (.getfield 15, 3) := by decide +kernel
theorem dX6_copyFrom_67 : decode cX6_copyFrom 67 = .ok (.iconst 0, 1) := by decide +kernel
theorem dX6_copyFrom_68 : decode cX6_copyFrom 68 = .ok (.aload_n 0, 1) := by decide +kernel
theorem dX6_copyFrom_69 : decode cX6_copyFrom 69 = .ok (.getfield 15, 3) := by decide +kernel
theorem dX6_copyFrom_72 : decode cX6_copyFrom 72 = .ok (.arraylength, 1) := by decide +kernel
theorem dX6_copyFrom_73 : decode cX6_copyFrom 73 = .ok (.invokestatic 65, 3) := by decide +kernel
theorem dX6_copyFrom_76 : decode cX6_copyFrom 76 = .ok (.aload_n 1, 1) := by decide +kernel
theorem dX6_copyFrom_77 : decode cX6_copyFrom 77 = .ok (.getfield 18, 3) := by decide +kernel
theorem dX6_copyFrom_80 : decode cX6_copyFrom 80 = .ok (.iconst 0, 1) := by decide +kernel
theorem dX6_copyFrom_81 : decode cX6_copyFrom 81 = .ok (.aload_n 0, 1) := by decide +kernel
theorem dX6_copyFrom_82 : decode cX6_copyFrom 82 = .ok (.getfield 18, 3) := by decide +kernel
theorem dX6_copyFrom_85 : decode cX6_copyFrom 85 = .ok (.iconst 0, 1) := by decide +kernel
theorem dX6_copyFrom_86 : decode cX6_copyFrom 86 = .ok (.aload_n 0, 1) := by decide +kernel
theorem dX6_copyFrom_87 : decode cX6_copyFrom 87 = .ok (.getfield 18, 3) := by decide +kernel
theorem dX6_copyFrom_90 : decode cX6_copyFrom 90 = .ok (.arraylength, 1) := by decide +kernel
theorem dX6_copyFrom_91 : decode cX6_copyFrom 91 = .ok (.invokestatic 65, 3) := by decide +kernel
theorem dX6_copyFrom_94 : decode cX6_copyFrom 94 = .ok (.aload_n 1, 1) := by decide +kernel
theorem dX6_copyFrom_95 : decode cX6_copyFrom 95 = .ok (.getfield 21, 3) := by decide +kernel
theorem dX6_copyFrom_98 : decode cX6_copyFrom 98 = .ok (.iconst 0, 1) := by decide +kernel
theorem dX6_copyFrom_99 : decode cX6_copyFrom 99 = .ok (.aload_n 0, 1) := by decide +kernel
theorem dX6_copyFrom_100 : decode cX6_copyFrom 100 = .ok (.getfield 21, 3) := by decide +kernel
theorem dX6_copyFrom_103 : decode cX6_copyFrom 103 = .ok (.iconst 0, 1) := by decide +kernel
theorem dX6_copyFrom_104 : decode cX6_copyFrom 104 = .ok (.aload_n 0, 1) := by decide +kernel
theorem dX6_copyFrom_105 : decode cX6_copyFrom 105 = .ok (.getfield 21, 3) := by decide +kernel
theorem dX6_copyFrom_108 : decode cX6_copyFrom 108 = .ok (.arraylength, 1) := by decide +kernel
theorem dX6_copyFrom_109 : decode cX6_copyFrom 109 = .ok (.invokestatic 65, 3) := by decide +kernel
theorem dX6_copyFrom_112 : decode cX6_copyFrom 112 = .ok (.aload_n 1, 1) := by decide +kernel
theorem dX6_copyFrom_113 : decode cX6_copyFrom 113 = .ok (.getfield 24, 3) := by decide +kernel
theorem dX6_copyFrom_116 : decode cX6_copyFrom 116 = .ok (.iconst 0, 1) := by decide +kernel
theorem dX6_copyFrom_117 : decode cX6_copyFrom 117 = .ok (.aload_n 0, 1) := by decide +kernel
theorem dX6_copyFrom_118 : decode cX6_copyFrom 118 = .ok (.getfield 24, 3) := by decide +kernel
theorem dX6_copyFrom_121 : decode cX6_copyFrom 121 = .ok (.iconst 0, 1) := by decide +kernel
theorem dX6_copyFrom_122 : decode cX6_copyFrom 122 = .ok (.aload_n 0, 1) := by decide +kernel
theorem dX6_copyFrom_123 : decode cX6_copyFrom 123 = .ok (.getfield 24, 3) := by decide +kernel
theorem dX6_copyFrom_126 : decode cX6_copyFrom 126 = .ok (.arraylength, 1) := by decide +kernel
theorem dX6_copyFrom_127 : decode cX6_copyFrom 127 = .ok (.invokestatic 65, 3) := by decide +kernel
theorem dX6_copyFrom_130 : decode cX6_copyFrom 130 = .ok (.aload_n 0, 1) := by decide +kernel
theorem dX6_copyFrom_131 : decode cX6_copyFrom 131 = .ok (.getfield 31, 3) := by decide +kernel
theorem dX6_copyFrom_134 : decode cX6_copyFrom 134 = .ok (.aload_n 1, 1) := by decide +kernel
theorem dX6_copyFrom_135 : decode cX6_copyFrom 135 = .ok (.getfield 31, 3) := by decide +kernel
theorem dX6_copyFrom_138 : decode cX6_copyFrom 138 = .ok (.invokevirtual 84, 3) := by decide +kernel
theorem dX6_copyFrom_141 : decode cX6_copyFrom 141 = .ok (.aload_n 0, 1) := by decide +kernel
theorem dX6_copyFrom_142 : decode cX6_copyFrom 142 = .ok (.getfield 38, 3) := by decide +kernel
theorem dX6_copyFrom_145 : decode cX6_copyFrom 145 = .ok (.aload_n 1, 1) := by decide +kernel
theorem dX6_copyFrom_146 : decode cX6_copyFrom 146 = .ok (.getfield 38, 3) := by decide +kernel
theorem dX6_copyFrom_149 : decode cX6_copyFrom 149 = .ok (.invokevirtual 88, 3) := by decide +kernel
theorem dX6_copyFrom_152 : decode cX6_copyFrom 152 = .ok (.return_, 1) := by decide +kernel
theorem dX6_cells_0 : decode cX6_cells 0 = .ok (.aload_n 0, 1) := by decide +kernel
theorem dX6_cells_1 : decode cX6_cells 1 = .ok (.getfield 45, 3) := by decide +kernel
theorem dX6_cells_4 : decode cX6_cells 4 = .ok (.aload_n 0, 1) := by decide +kernel
theorem dX6_cells_5 : decode cX6_cells 5 = .ok (.getfield 49, 3) := by decide +kernel
theorem dX6_cells_8 : decode cX6_cells 8 = .ok (.imul, 1) := by decide +kernel
theorem dX6_cells_9 : decode cX6_cells 9 = .ok (.ireturn, 1) := by decide +kernel
theorem dX6_cellAt_0 : decode cX6_cellAt 0 = .ok (.iload_n 2, 1) := by decide +kernel
theorem dX6_cellAt_1 : decode cX6_cellAt 1 = .ok (.aload_n 0, 1) := by decide +kernel
theorem dX6_cellAt_2 : decode cX6_cellAt 2 = .ok (.getfield 45, 3) := by decide +kernel
theorem dX6_cellAt_5 : decode cX6_cellAt 5 = .ok (.imul, 1) := by decide +kernel
theorem dX6_cellAt_6 : decode cX6_cellAt 6 = .ok (.iload_n 1, 1) := by decide +kernel
theorem dX6_cellAt_7 : decode cX6_cellAt 7 = .ok (.iadd, 1) := by decide +kernel
theorem dX6_cellAt_8 : decode cX6_cellAt 8 = .ok (.ireturn, 1) := by decide +kernel
theorem dX6_laneOf_0 : decode cX6_laneOf 0 = .ok (.iload_n 1, 1) := by decide +kernel
theorem dX6_laneOf_1 : decode cX6_laneOf 1 = .ok (.iconst 1, 1) := by decide +kernel
theorem dX6_laneOf_2 : decode cX6_laneOf 2 = .ok (.aload_n 0, 1) := by decide +kernel
theorem dX6_laneOf_3 : decode cX6_laneOf 3 = .ok (.getfield 45, 3) := by decide +kernel
theorem dX6_laneOf_6 : decode cX6_laneOf 6 = .ok (.invokestatic 91, 3) := by decide +kernel
theorem dX6_laneOf_9 : decode cX6_laneOf 9 = .ok (.idiv, 1) := by decide +kernel
theorem dX6_laneOf_10 : decode cX6_laneOf 10 = .ok (.ireturn, 1) := by decide +kernel
theorem dX6_stationOf_0 : decode cX6_stationOf 0 = .ok (.iload_n 1, 1) := by decide +kernel
theorem dX6_stationOf_1 : decode cX6_stationOf 1 = .ok (.iconst 1, 1) := by decide +kernel
theorem dX6_stationOf_2 : decode cX6_stationOf 2 = .ok (.aload_n 0, 1) := by decide +kernel
theorem dX6_stationOf_3 : decode cX6_stationOf 3 = .ok (.getfield 45, 3) := by decide +kernel
theorem dX6_stationOf_6 : decode cX6_stationOf 6 = .ok (.invokestatic 91, 3) := by decide +kernel
theorem dX6_stationOf_9 : decode cX6_stationOf 9 = .ok (.irem, 1) := by decide +kernel
theorem dX6_stationOf_10 : decode cX6_stationOf 10 = .ok (.ireturn, 1) := by decide +kernel
theorem dX6_distance_0 : decode cX6_distance 0 = .ok (.iconst 1, 1) := by decide +kernel
theorem dX6_distance_1 : decode cX6_distance 1 = .ok (.aload_n 0, 1) := by decide +kernel
theorem dX6_distance_2 : decode cX6_distance 2 = .ok (.getfield 45, 3) := by decide +kernel
theorem dX6_distance_5 : decode cX6_distance 5 = .ok (.invokestatic 91, 3) := by decide +kernel
theorem dX6_distance_8 : decode cX6_distance 8 = .ok (.istore_n 3, 1) := by decide +kernel
theorem dX6_distance_9 : decode cX6_distance 9 = .ok (.iload_n 1, 1) := by decide +kernel
theorem dX6_distance_10 : decode cX6_distance 10 = .ok (.iload_n 3, 1) := by decide +kernel
theorem dX6_distance_11 : decode cX6_distance 11 = .ok (.irem, 1) := by decide +kernel
theorem dX6_distance_12 : decode cX6_distance 12 = .ok (.iload_n 2, 1) := by decide +kernel
theorem dX6_distance_13 : decode cX6_distance 13 = .ok (.iload_n 3, 1) := by decide +kernel
theorem dX6_distance_14 : decode cX6_distance 14 = .ok (.irem, 1) := by decide +kernel
theorem dX6_distance_15 : decode cX6_distance 15 = .ok (.isub, 1) := by decide +kernel
theorem dX6_distance_16 : decode cX6_distance 16 = .ok (.invokestatic 97, 3) := by decide +kernel
theorem dX6_distance_19 : decode cX6_distance 19 = .ok (.iconst 3, 1) := by decide +kernel
theorem dX6_distance_20 : decode cX6_distance 20 = .ok (.iload_n 1, 1) := by decide +kernel
theorem dX6_distance_21 : decode cX6_distance 21 = .ok (.iload_n 3, 1) := by decide +kernel
theorem dX6_distance_22 : decode cX6_distance 22 = .ok (.idiv, 1) := by decide +kernel
theorem dX6_distance_23 : decode cX6_distance 23 = .ok (.iload_n 2, 1) := by decide +kernel
theorem dX6_distance_24 : decode cX6_distance 24 = .ok (.iload_n 3, 1) := by decide +kernel
theorem dX6_distance_25 : decode cX6_distance 25 = .ok (.idiv, 1) := by decide +kernel
theorem dX6_distance_26 : decode cX6_distance 26 = .ok (.isub, 1) := by decide +kernel
theorem dX6_distance_27 : decode cX6_distance 27 = .ok (.invokestatic 97, 3) := by decide +kernel
theorem dX6_distance_30 : decode cX6_distance 30 = .ok (.imul, 1) := by decide +kernel
theorem dX6_distance_31 : decode cX6_distance 31 = .ok (.iadd, 1) := by decide +kernel
theorem dX6_distance_32 : decode cX6_distance 32 = .ok (.ireturn, 1) := by decide +kernel
theorem dX6_isClosed_0 : decode cX6_isClosed 0 = .ok (.aload_n 0, 1) := by decide +kernel
theorem dX6_isClosed_1 : decode cX6_isClosed 1 = .ok (.getfield 55, 3) := by decide +kernel
theorem dX6_isClosed_4 : decode cX6_isClosed 4 = .ok (.iload_n 1, 1) := by decide +kernel
theorem dX6_isClosed_5 : decode cX6_isClosed 5 = .ok (.ishr, 1) := by decide +kernel
theorem dX6_isClosed_6 : decode cX6_isClosed 6 = .ok (.iconst 1, 1) := by decide +kernel
theorem dX6_isClosed_7 : decode cX6_isClosed 7 = .ok (.iand, 1) := by decide +kernel
theorem dX6_isClosed_8 : decode cX6_isClosed 8 = .ok (.ifCond .eq 7, 3) := by decide +kernel
theorem dX6_isClosed_11 : decode cX6_isClosed 11 = .ok (.iconst 1, 1) := by decide +kernel
theorem dX6_isClosed_12 : decode cX6_isClosed 12 = .ok (.goto 4, 3) := by decide +kernel
theorem dX6_isClosed_15 : decode cX6_isClosed 15 = .ok (.iconst 0, 1) := by decide +kernel
theorem dX6_isClosed_16 : decode cX6_isClosed 16 = .ok (.ireturn, 1) := by decide +kernel
theorem dX6_putClosed_0 : decode cX6_putClosed 0 = .ok (.iconst 1, 1) := by decide +kernel
theorem dX6_putClosed_1 : decode cX6_putClosed 1 = .ok (.iload_n 1, 1) := by decide +kernel
theorem dX6_putClosed_2 : decode cX6_putClosed 2 = .ok (.ishl, 1) := by decide +kernel
theorem dX6_putClosed_3 : decode cX6_putClosed 3 = .ok (.istore_n 3, 1) := by decide +kernel
theorem dX6_putClosed_4 : decode cX6_putClosed 4 = .ok (.aload_n 0, 1) := by decide +kernel
theorem dX6_putClosed_5 : decode cX6_putClosed 5 = .ok (.iload_n 2, 1) := by decide +kernel
theorem dX6_putClosed_6 : decode cX6_putClosed 6 = .ok (.ifCond .eq 12, 3) := by decide +kernel
theorem dX6_putClosed_9 : decode cX6_putClosed 9 = .ok (.aload_n 0, 1) := by decide +kernel
theorem dX6_putClosed_10 : decode cX6_putClosed 10 = .ok (.getfield 55, 3) := by decide +kernel
theorem dX6_putClosed_13 : decode cX6_putClosed 13 = .ok (.iload_n 3, 1) := by decide +kernel
theorem dX6_putClosed_14 : decode cX6_putClosed 14 = .ok (.ior, 1) := by decide +kernel
theorem dX6_putClosed_15 : decode cX6_putClosed 15 = .ok (.goto 11, 3) := by decide +kernel
theorem dX6_putClosed_18 : decode cX6_putClosed 18 = .ok (.aload_n 0, 1) := by decide +kernel
theorem dX6_putClosed_19 : decode cX6_putClosed 19 = .ok (.getfield 55, 3) := by decide +kernel
theorem dX6_putClosed_22 : decode cX6_putClosed 22 = .ok (.iload_n 3, 1) := by decide +kernel
theorem dX6_putClosed_23 : decode cX6_putClosed 23 = .ok (.iconst (-1), 1) := by decide +kernel
theorem dX6_putClosed_24 : decode cX6_putClosed 24 = .ok (.ixor, 1) := by decide +kernel
theorem dX6_putClosed_25 : decode cX6_putClosed 25 = .ok (.iand, 1) := by decide +kernel
theorem dX6_putClosed_26 : decode cX6_putClosed 26 = .ok (.putfield 55, 3) := by decide +kernel
theorem dX6_putClosed_29 : decode cX6_putClosed 29 = .ok (.return_, 1) := by decide +kernel
theorem dX6_isRebuilt_0 : decode cX6_isRebuilt 0 = .ok (.aload_n 0, 1) := by decide +kernel
theorem dX6_isRebuilt_1 : decode cX6_isRebuilt 1 = .ok (.getfield 58, 3) := by decide +kernel
theorem dX6_isRebuilt_4 : decode cX6_isRebuilt 4 = .ok (.iload_n 1, 1) := by decide +kernel
theorem dX6_isRebuilt_5 : decode cX6_isRebuilt 5 = .ok (.lshr, 1) := by decide +kernel
theorem dX6_isRebuilt_6 : decode cX6_isRebuilt 6 = .ok (.lconst 1, 1) := by decide +kernel
theorem dX6_isRebuilt_7 : decode cX6_isRebuilt 7 = .ok (.land, 1) := by decide +kernel
theorem dX6_isRebuilt_8 : decode cX6_isRebuilt 8 = .ok (.lconst 0, 1) := by decide +kernel
theorem dX6_isRebuilt_9 : decode cX6_isRebuilt 9 = .ok (.lcmp, 1) := by decide +kernel
theorem dX6_isRebuilt_10 : decode cX6_isRebuilt 10 = .ok (.ifCond .eq 7, 3) := by decide +kernel
theorem dX6_isRebuilt_13 : decode cX6_isRebuilt 13 = .ok (.iconst 1, 1) := by decide +kernel
theorem dX6_isRebuilt_14 : decode cX6_isRebuilt 14 = .ok (.goto 4, 3) := by decide +kernel
theorem dX6_isRebuilt_17 : decode cX6_isRebuilt 17 = .ok (.iconst 0, 1) := by decide +kernel
theorem dX6_isRebuilt_18 : decode cX6_isRebuilt 18 = .ok (.ireturn, 1) := by decide +kernel
theorem dX6_putRebuilt_0 : decode cX6_putRebuilt 0 = .ok (.aload_n 0, 1) := by decide +kernel
theorem dX6_putRebuilt_1 : decode cX6_putRebuilt 1 = .ok (.dup, 1) := by decide +kernel
theorem dX6_putRebuilt_2 : decode cX6_putRebuilt 2 = .ok (.getfield 58, 3) := by decide +kernel
theorem dX6_putRebuilt_5 : decode cX6_putRebuilt 5 = .ok (.lconst 1, 1) := by decide +kernel
theorem dX6_putRebuilt_6 : decode cX6_putRebuilt 6 = .ok (.iload_n 1, 1) := by decide +kernel
theorem dX6_putRebuilt_7 : decode cX6_putRebuilt 7 = .ok (.lshl, 1) := by decide +kernel
theorem dX6_putRebuilt_8 : decode cX6_putRebuilt 8 = .ok (.lor, 1) := by decide +kernel
theorem dX6_putRebuilt_9 : decode cX6_putRebuilt 9 = .ok (.putfield 58, 3) := by decide +kernel
theorem dX6_putRebuilt_12 : decode cX6_putRebuilt 12 = .ok (.return_, 1) := by decide +kernel
theorem dX6_nearestCore_0 : decode cX6_nearestCore 0 = .ok (.iconst (-1), 1) := by decide +kernel
theorem dX6_nearestCore_1 : decode cX6_nearestCore 1 = .ok (.istore_n 3, 1) := by decide +kernel
theorem dX6_nearestCore_2 : decode cX6_nearestCore 2 = .ok (.iconst 0, 1) := by decide +kernel
theorem dX6_nearestCore_3 : decode cX6_nearestCore 3 = .ok (.istore 4, 2) := by decide +kernel
theorem dX6_nearestCore_5 : decode cX6_nearestCore 5 = .ok (.iconst 0, 1) := by decide +kernel
theorem dX6_nearestCore_6 : decode cX6_nearestCore 6 = .ok (.istore 5, 2) := by decide +kernel
theorem dX6_nearestCore_8 : decode cX6_nearestCore 8 = .ok (.iload 5, 2) := by decide +kernel
theorem dX6_nearestCore_10 : decode cX6_nearestCore 10 = .ok (.aload_n 0, 1) := by decide +kernel
theorem dX6_nearestCore_11 : decode cX6_nearestCore 11 = .ok (.getfield 31, 3) := by decide +kernel
theorem dX6_nearestCore_14 : decode cX6_nearestCore 14 = .ok (.getfield 101, 3) := by decide +kernel
theorem dX6_nearestCore_17 : decode cX6_nearestCore 17 = .ok (.if_icmp .ge 51, 3) := by decide +kernel
theorem dX6_nearestCore_20 : decode cX6_nearestCore 20 = .ok (.aload_n 0, 1) := by decide +kernel
theorem dX6_nearestCore_21 : decode cX6_nearestCore 21 = .ok (.iload_n 1, 1) := by decide +kernel
theorem dX6_nearestCore_22 : decode cX6_nearestCore 22 = .ok (.aload_n 0, 1) := by decide +kernel
theorem dX6_nearestCore_23 : decode cX6_nearestCore 23 = .ok (.getfield 31, 3) := by decide +kernel
theorem dX6_nearestCore_26 : decode cX6_nearestCore 26 = .ok (.getfield 102, 3) := by decide +kernel
theorem dX6_nearestCore_29 : decode cX6_nearestCore 29 = .ok (.iload 5, 2) := by decide +kernel
theorem dX6_nearestCore_31 : decode cX6_nearestCore 31 = .ok (.iaload, 1) := by decide +kernel
theorem dX6_nearestCore_32 : decode cX6_nearestCore 32 = .ok (.invokevirtual 105, 3) := by decide +kernel
theorem dX6_nearestCore_35 : decode cX6_nearestCore 35 = .ok (.istore 6, 2) := by decide +kernel
theorem dX6_nearestCore_37 : decode cX6_nearestCore 37 = .ok (.iload 5, 2) := by decide +kernel
theorem dX6_nearestCore_39 : decode cX6_nearestCore 39 = .ok (.iload_n 2, 1) := by decide +kernel
theorem dX6_nearestCore_40 : decode cX6_nearestCore 40 = .ok (.if_icmp .eq 22, 3) := by decide +kernel
theorem dX6_nearestCore_43 : decode cX6_nearestCore 43 = .ok (.iload_n 3, 1) := by decide +kernel
theorem dX6_nearestCore_44 : decode cX6_nearestCore 44 = .ok (.iconst (-1), 1) := by decide +kernel
theorem dX6_nearestCore_45 : decode cX6_nearestCore 45 = .ok (.if_icmp .eq 10, 3) := by decide +kernel
theorem dX6_nearestCore_48 : decode cX6_nearestCore 48 = .ok (.iload 6, 2) := by decide +kernel
theorem dX6_nearestCore_50 : decode cX6_nearestCore 50 = .ok (.iload 4, 2) := by decide +kernel
theorem dX6_nearestCore_52 : decode cX6_nearestCore 52 = .ok (.if_icmp .ge 10, 3) := by decide +kernel
theorem dX6_nearestCore_55 : decode cX6_nearestCore 55 = .ok (.iload 5, 2) := by decide +kernel
theorem dX6_nearestCore_57 : decode cX6_nearestCore 57 = .ok (.istore_n 3, 1) := by decide +kernel
theorem dX6_nearestCore_58 : decode cX6_nearestCore 58 = .ok (.iload 6, 2) := by decide +kernel
theorem dX6_nearestCore_60 : decode cX6_nearestCore 60 = .ok (.istore 4, 2) := by decide +kernel
theorem dX6_nearestCore_62 : decode cX6_nearestCore 62 = .ok (.iinc 5 1, 3) := by decide +kernel
theorem dX6_nearestCore_65 : decode cX6_nearestCore 65 = .ok (.goto (-57), 3) := by decide +kernel
theorem dX6_nearestCore_68 : decode cX6_nearestCore 68 = .ok (.iload_n 3, 1) := by decide +kernel
theorem dX6_nearestCore_69 : decode cX6_nearestCore 69 = .ok (.ireturn, 1) := by decide +kernel
theorem dX6_rowOf_0 : decode cX6_rowOf 0 = .ok (.aload_n 0, 1) := by decide +kernel
theorem dX6_rowOf_1 : decode cX6_rowOf 1 = .ok (.iload_n 1, 1) := by decide +kernel
theorem dX6_rowOf_2 : decode cX6_rowOf 2 = .ok (.invokevirtual 108, 3) := by decide +kernel
theorem dX6_rowOf_5 : decode cX6_rowOf 5 = .ok (.ifCond .eq 7, 3) := by decide +kernel
theorem dX6_rowOf_8 : decode cX6_rowOf 8 = .ok (.iconst (-1), 1) := by decide +kernel
theorem dX6_rowOf_9 : decode cX6_rowOf 9 = .ok (.goto 9, 3) := by decide +kernel
theorem dX6_rowOf_12 : decode cX6_rowOf 12 = .ok (.aload_n 0, 1) := by decide +kernel
theorem dX6_rowOf_13 : decode cX6_rowOf 13 = .ok (.iload_n 1, 1) := by decide +kernel
theorem dX6_rowOf_14 : decode cX6_rowOf 14 = .ok (.iload_n 2, 1) := by decide +kernel
theorem dX6_rowOf_15 : decode cX6_rowOf 15 = .ok (.invokevirtual 112, 3) := by decide +kernel
theorem dX6_rowOf_18 : decode cX6_rowOf 18 = .ok (.istore_n 3, 1) := by decide +kernel
theorem dX6_rowOf_19 : decode cX6_rowOf 19 = .ok (.iload_n 3, 1) := by decide +kernel
theorem dX6_rowOf_20 : decode cX6_rowOf 20 = .ok (.iconst (-1), 1) := by decide +kernel
theorem dX6_rowOf_21 : decode cX6_rowOf 21 = .ok (.if_icmp .ne 8, 3) := by decide +kernel
theorem dX6_rowOf_24 : decode cX6_rowOf 24 = .ok (.bipush 12, 2) := by decide +kernel
theorem dX6_rowOf_26 : decode cX6_rowOf 26 = .ok (.goto 4, 3) := by decide +kernel
theorem dX6_rowOf_29 : decode cX6_rowOf 29 = .ok (.iload_n 3, 1) := by decide +kernel
theorem dX6_rowOf_30 : decode cX6_rowOf 30 = .ok (.ireturn, 1) := by decide +kernel
theorem dX6_coreOf_0 : decode cX6_coreOf 0 = .ok (.aload_n 0, 1) := by decide +kernel
theorem dX6_coreOf_1 : decode cX6_coreOf 1 = .ok (.iload_n 1, 1) := by decide +kernel
theorem dX6_coreOf_2 : decode cX6_coreOf 2 = .ok (.iconst (-1), 1) := by decide +kernel
theorem dX6_coreOf_3 : decode cX6_coreOf 3 = .ok (.invokevirtual 115, 3) := by decide +kernel
theorem dX6_coreOf_6 : decode cX6_coreOf 6 = .ok (.istore_n 2, 1) := by decide +kernel
theorem dX6_coreOf_7 : decode cX6_coreOf 7 = .ok (.iload_n 2, 1) := by decide +kernel
theorem dX6_coreOf_8 : decode cX6_coreOf 8 = .ok (.bipush 12, 2) := by decide +kernel
theorem dX6_coreOf_10 : decode cX6_coreOf 10 = .ok (.if_icmp .ne 7, 3) := by decide +kernel
theorem dX6_coreOf_13 : decode cX6_coreOf 13 = .ok (.iconst (-1), 1) := by decide +kernel
theorem dX6_coreOf_14 : decode cX6_coreOf 14 = .ok (.goto 4, 3) := by decide +kernel
theorem dX6_coreOf_17 : decode cX6_coreOf 17 = .ok (.iload_n 2, 1) := by decide +kernel
theorem dX6_coreOf_18 : decode cX6_coreOf 18 = .ok (.ireturn, 1) := by decide +kernel
theorem dX6_coreDistance_0 : decode cX6_coreDistance 0 = .ok (.aload_n 0, 1) := by decide +kernel
theorem dX6_coreDistance_1 : decode cX6_coreDistance 1 = .ok (.iload_n 1, 1) := by decide +kernel
theorem dX6_coreDistance_2 : decode cX6_coreDistance 2 = .ok (.invokevirtual 118, 3) := by decide +kernel
theorem dX6_coreDistance_5 : decode cX6_coreDistance 5 = .ok (.istore_n 2, 1) := by decide +kernel
theorem dX6_coreDistance_6 : decode cX6_coreDistance 6 = .ok (.iload_n 2, 1) := by decide +kernel
theorem dX6_coreDistance_7 : decode cX6_coreDistance 7 = .ok (.iconst (-1), 1) := by decide +kernel
theorem dX6_coreDistance_8 : decode cX6_coreDistance 8 = .ok (.if_icmp .ne 7, 3) := by decide +kernel
theorem dX6_coreDistance_11 : decode cX6_coreDistance 11 = .ok (.iconst (-1), 1) := by decide +kernel
theorem dX6_coreDistance_12 : decode cX6_coreDistance 12 = .ok (.goto 17, 3) := by decide +kernel
theorem dX6_coreDistance_15 : decode cX6_coreDistance 15 = .ok (.aload_n 0, 1) := by decide +kernel
theorem dX6_coreDistance_16 : decode cX6_coreDistance 16 = .ok (.iload_n 1, 1) := by decide +kernel
theorem dX6_coreDistance_17 : decode cX6_coreDistance 17 = .ok (.aload_n 0, 1) := by decide +kernel
theorem dX6_coreDistance_18 : decode cX6_coreDistance 18 = .ok (.getfield 31, 3) := by decide +kernel
theorem dX6_coreDistance_21 : decode cX6_coreDistance 21 = .ok (.getfield 102, 3) := by decide +kernel
theorem dX6_coreDistance_24 : decode cX6_coreDistance 24 = .ok (.iload_n 2, 1) := by decide +kernel
theorem dX6_coreDistance_25 : decode cX6_coreDistance 25 = .ok (.iaload, 1) := by decide +kernel
theorem dX6_coreDistance_26 : decode cX6_coreDistance 26 = .ok (.invokevirtual 105, 3) := by decide +kernel
theorem dX6_coreDistance_29 : decode cX6_coreDistance 29 = .ok (.ireturn, 1) := by decide +kernel
theorem dX6_cellsOfCore_0 : decode cX6_cellsOfCore 0 = .ok (.iconst 0, 1) := by decide +kernel
theorem dX6_cellsOfCore_1 : decode cX6_cellsOfCore 1 = .ok (.istore_n 2, 1) := by decide +kernel
theorem dX6_cellsOfCore_2 : decode cX6_cellsOfCore 2 = .ok (.iconst 0, 1) := by decide +kernel
theorem dX6_cellsOfCore_3 : decode cX6_cellsOfCore 3 = .ok (.istore_n 3, 1) := by decide +kernel
theorem dX6_cellsOfCore_4 : decode cX6_cellsOfCore 4 = .ok (.iload_n 3, 1) := by decide +kernel
theorem dX6_cellsOfCore_5 : decode cX6_cellsOfCore 5 = .ok (.aload_n 0, 1) := by decide +kernel
theorem dX6_cellsOfCore_6 : decode cX6_cellsOfCore 6 = .ok (.invokevirtual 121, 3) := by decide +kernel
theorem dX6_cellsOfCore_9 : decode cX6_cellsOfCore 9 = .ok (.if_icmp .ge 21, 3) := by decide +kernel
theorem dX6_cellsOfCore_12 : decode cX6_cellsOfCore 12 = .ok (.aload_n 0, 1) := by decide +kernel
theorem dX6_cellsOfCore_13 : decode cX6_cellsOfCore 13 = .ok (.iload_n 3, 1) := by decide +kernel
theorem dX6_cellsOfCore_14 : decode cX6_cellsOfCore 14 = .ok (.invokevirtual 118, 3) := by decide +kernel
theorem dX6_cellsOfCore_17 : decode cX6_cellsOfCore 17 = .ok (.iload_n 1, 1) := by decide +kernel
theorem dX6_cellsOfCore_18 : decode cX6_cellsOfCore 18 = .ok (.if_icmp .ne 6, 3) := by decide +kernel
theorem dX6_cellsOfCore_21 : decode cX6_cellsOfCore 21 = .ok (.iinc 2 1, 3) := by decide +kernel
theorem dX6_cellsOfCore_24 : decode cX6_cellsOfCore 24 = .ok (.iinc 3 1, 3) := by decide +kernel
theorem dX6_cellsOfCore_27 : decode cX6_cellsOfCore 27 = .ok (.goto (-23), 3) := by decide +kernel
theorem dX6_cellsOfCore_30 : decode cX6_cellsOfCore 30 = .ok (.iload_n 2, 1) := by decide +kernel
theorem dX6_cellsOfCore_31 : decode cX6_cellsOfCore 31 = .ok (.ireturn, 1) := by decide +kernel
theorem dX6_strengthBy_0 : decode cX6_strengthBy 0 = .ok (.aload_n 0, 1) := by decide +kernel
theorem dX6_strengthBy_1 : decode cX6_strengthBy 1 = .ok (.getfield 31, 3) := by decide +kernel
theorem dX6_strengthBy_4 : decode cX6_strengthBy 4 = .ok (.iload_n 1, 1) := by decide +kernel
theorem dX6_strengthBy_5 : decode cX6_strengthBy 5 = .ok (.invokevirtual 124, 3) := by decide +kernel
theorem dX6_strengthBy_8 : decode cX6_strengthBy 8 = .ok (.iload_n 2, 1) := by decide +kernel
theorem dX6_strengthBy_9 : decode cX6_strengthBy 9 = .ok (.getstatic 127, 3) := by decide +kernel
theorem dX6_strengthBy_12 : decode cX6_strengthBy 12 = .ok (.iconst 0, 1) := by decide +kernel
theorem dX6_strengthBy_13 : decode cX6_strengthBy 13 = .ok (.iaload, 1) := by decide +kernel
theorem dX6_strengthBy_14 : decode cX6_strengthBy 14 = .ok (.imul, 1) := by decide +kernel
theorem dX6_strengthBy_15 : decode cX6_strengthBy 15 = .ok (.iadd, 1) := by decide +kernel
theorem dX6_strengthBy_16 : decode cX6_strengthBy 16 = .ok (.istore_n 3, 1) := by decide +kernel
theorem dX6_strengthBy_17 : decode cX6_strengthBy 17 = .ok (.iconst 1, 1) := by decide +kernel
theorem dX6_strengthBy_18 : decode cX6_strengthBy 18 = .ok (.iload_n 3, 1) := by decide +kernel
theorem dX6_strengthBy_19 : decode cX6_strengthBy 19 = .ok (.bipush 100, 2) := by decide +kernel
theorem dX6_strengthBy_21 : decode cX6_strengthBy 21 = .ok (.idiv, 1) := by decide +kernel
theorem dX6_strengthBy_22 : decode cX6_strengthBy 22 = .ok (.invokestatic 91, 3) := by decide +kernel
theorem dX6_strengthBy_25 : decode cX6_strengthBy 25 = .ok (.ireturn, 1) := by decide +kernel
theorem dX6_strengthOf_0 : decode cX6_strengthOf 0 = .ok (.aload_n 0, 1) := by decide +kernel
theorem dX6_strengthOf_1 : decode cX6_strengthOf 1 = .ok (.aload_n 0, 1) := by decide +kernel
theorem dX6_strengthOf_2 : decode cX6_strengthOf 2 = .ok (.iload_n 1, 1) := by decide +kernel
theorem dX6_strengthOf_3 : decode cX6_strengthOf 3 = .ok (.iconst (-1), 1) := by decide +kernel
theorem dX6_strengthOf_4 : decode cX6_strengthOf 4 = .ok (.invokevirtual 115, 3) := by decide +kernel
theorem dX6_strengthOf_7 : decode cX6_strengthOf 7 = .ok (.aload_n 0, 1) := by decide +kernel
theorem dX6_strengthOf_8 : decode cX6_strengthOf 8 = .ok (.getfield 21, 3) := by decide +kernel
theorem dX6_strengthOf_11 : decode cX6_strengthOf 11 = .ok (.iload_n 1, 1) := by decide +kernel
theorem dX6_strengthOf_12 : decode cX6_strengthOf 12 = .ok (.iaload, 1) := by decide +kernel
theorem dX6_strengthOf_13 : decode cX6_strengthOf 13 = .ok (.invokevirtual 130, 3) := by decide +kernel
theorem dX6_strengthOf_16 : decode cX6_strengthOf 16 = .ok (.ireturn, 1) := by decide +kernel
theorem dX6_capacityOf_0 : decode cX6_capacityOf 0 = .ok (.iload_n 1, 1) := by decide +kernel
theorem dX6_capacityOf_1 : decode cX6_capacityOf 1 = .ok (.i2l, 1) := by decide +kernel
theorem dX6_capacityOf_2 : decode cX6_capacityOf 2 = .ok (.iload_n 1, 1) := by decide +kernel
theorem dX6_capacityOf_3 : decode cX6_capacityOf 3 = .ok (.i2l, 1) := by decide +kernel
theorem dX6_capacityOf_4 : decode cX6_capacityOf 4 = .ok (.lmul, 1) := by decide +kernel
theorem dX6_capacityOf_5 : decode cX6_capacityOf 5 = .ok (.aload_n 0, 1) := by decide +kernel
theorem dX6_capacityOf_6 : decode cX6_capacityOf 6 = .ok (.getfield 9, 3) := by decide +kernel
theorem dX6_capacityOf_9 : decode cX6_capacityOf 9 = .ok (.iconst 2, 1) := by decide +kernel
theorem dX6_capacityOf_10 : decode cX6_capacityOf 10 = .ok (.iaload, 1) := by decide +kernel
theorem dX6_capacityOf_11 : decode cX6_capacityOf 11 = .ok (.i2l, 1) := by decide +kernel
theorem dX6_capacityOf_12 : decode cX6_capacityOf 12 = .ok (.lmul, 1) := by decide +kernel
theorem dX6_capacityOf_13 : decode cX6_capacityOf 13 = .ok (.lreturn, 1) := by decide +kernel
theorem dX6_failureBy_0 : decode cX6_failureBy 0 = .ok (.iload_n 1, 1) := by decide +kernel
theorem dX6_failureBy_1 : decode cX6_failureBy 1 = .ok (.aload_n 0, 1) := by decide +kernel
theorem dX6_failureBy_2 : decode cX6_failureBy 2 = .ok (.getfield 9, 3) := by decide +kernel
theorem dX6_failureBy_5 : decode cX6_failureBy 5 = .ok (.iconst 1, 1) := by decide +kernel
theorem dX6_failureBy_6 : decode cX6_failureBy 6 = .ok (.iaload, 1) := by decide +kernel
theorem dX6_failureBy_7 : decode cX6_failureBy 7 = .ok (.if_icmp .lt 7, 3) := by decide +kernel
theorem dX6_failureBy_10 : decode cX6_failureBy 10 = .ok (.iconst 1, 1) := by decide +kernel
theorem dX6_failureBy_11 : decode cX6_failureBy 11 = .ok (.goto 4, 3) := by decide +kernel
theorem dX6_failureBy_14 : decode cX6_failureBy 14 = .ok (.iconst 0, 1) := by decide +kernel
theorem dX6_failureBy_15 : decode cX6_failureBy 15 = .ok (.istore 5, 2) := by decide +kernel
theorem dX6_failureBy_17 : decode cX6_failureBy 17 = .ok (.lload_n 2, 1) := by decide +kernel
theorem dX6_failureBy_18 : decode cX6_failureBy 18 = .ok (.aload_n 0, 1) := by decide +kernel
theorem dX6_failureBy_19 : decode cX6_failureBy 19 = .ok (.iload 4, 2) := by decide +kernel
theorem dX6_failureBy_21 : decode cX6_failureBy 21 = .ok (.invokevirtual 133, 3) := by decide +kernel
theorem dX6_failureBy_24 : decode cX6_failureBy 24 = .ok (.lcmp, 1) := by decide +kernel
theorem dX6_failureBy_25 : decode cX6_failureBy 25 = .ok (.ifCond .lt 7, 3) := by decide +kernel
theorem dX6_failureBy_28 : decode cX6_failureBy 28 = .ok (.iconst 2, 1) := by decide +kernel
theorem dX6_failureBy_29 : decode cX6_failureBy 29 = .ok (.goto 4, 3) := by decide +kernel
theorem dX6_failureBy_32 : decode cX6_failureBy 32 = .ok (.iconst 0, 1) := by decide +kernel
theorem dX6_failureBy_33 : decode cX6_failureBy 33 = .ok (.istore 6, 2) := by decide +kernel
theorem dX6_failureBy_35 : decode cX6_failureBy 35 = .ok (.iload 5, 2) := by decide +kernel
theorem dX6_failureBy_37 : decode cX6_failureBy 37 = .ok (.iload 6, 2) := by decide +kernel
theorem dX6_failureBy_39 : decode cX6_failureBy 39 = .ok (.iadd, 1) := by decide +kernel
theorem dX6_failureBy_40 : decode cX6_failureBy 40 = .ok (.ireturn, 1) := by decide +kernel
theorem dX6_failureNow_0 : decode cX6_failureNow 0 = .ok (.aload_n 0, 1) := by decide +kernel
theorem dX6_failureNow_1 : decode cX6_failureNow 1 = .ok (.aload_n 0, 1) := by decide +kernel
theorem dX6_failureNow_2 : decode cX6_failureNow 2 = .ok (.getfield 18, 3) := by decide +kernel
theorem dX6_failureNow_5 : decode cX6_failureNow 5 = .ok (.iload_n 1, 1) := by decide +kernel
theorem dX6_failureNow_6 : decode cX6_failureNow 6 = .ok (.iaload, 1) := by decide +kernel
theorem dX6_failureNow_7 : decode cX6_failureNow 7 = .ok (.aload_n 0, 1) := by decide +kernel
theorem dX6_failureNow_8 : decode cX6_failureNow 8 = .ok (.getfield 24, 3) := by decide +kernel
theorem dX6_failureNow_11 : decode cX6_failureNow 11 = .ok (.iload_n 1, 1) := by decide +kernel
theorem dX6_failureNow_12 : decode cX6_failureNow 12 = .ok (.laload, 1) := by decide +kernel
theorem dX6_failureNow_13 : decode cX6_failureNow 13 = .ok (.aload_n 0, 1) := by decide +kernel
theorem dX6_failureNow_14 : decode cX6_failureNow 14 = .ok (.iload_n 1, 1) := by decide +kernel
theorem dX6_failureNow_15 : decode cX6_failureNow 15 = .ok (.invokevirtual 137, 3) := by decide +kernel
theorem dX6_failureNow_18 : decode cX6_failureNow 18 = .ok (.invokevirtual 140, 3) := by decide +kernel
theorem dX6_failureNow_21 : decode cX6_failureNow 21 = .ok (.ireturn, 1) := by decide +kernel
theorem dX6_failingCells_0 : decode cX6_failingCells 0 = .ok (.iconst 0, 1) := by decide +kernel
theorem dX6_failingCells_1 : decode cX6_failingCells 1 = .ok (.istore_n 1, 1) := by decide +kernel
theorem dX6_failingCells_2 : decode cX6_failingCells 2 = .ok (.iconst 0, 1) := by decide +kernel
theorem dX6_failingCells_3 : decode cX6_failingCells 3 = .ok (.istore_n 2, 1) := by decide +kernel
theorem dX6_failingCells_4 : decode cX6_failingCells 4 = .ok (.iload_n 2, 1) := by decide +kernel
theorem dX6_failingCells_5 : decode cX6_failingCells 5 = .ok (.aload_n 0, 1) := by decide +kernel
theorem dX6_failingCells_6 : decode cX6_failingCells 6 = .ok (.invokevirtual 121, 3) := by decide +kernel
theorem dX6_failingCells_9 : decode cX6_failingCells 9 = .ok (.if_icmp .ge 20, 3) := by decide +kernel
theorem dX6_failingCells_12 : decode cX6_failingCells 12 = .ok (.aload_n 0, 1) := by decide +kernel
theorem dX6_failingCells_13 : decode cX6_failingCells 13 = .ok (.iload_n 2, 1) := by decide +kernel
theorem dX6_failingCells_14 : decode cX6_failingCells 14 = .ok (.invokevirtual 144, 3) := by decide +kernel
theorem dX6_failingCells_17 : decode cX6_failingCells 17 = .ok (.ifCond .eq 6, 3) := by decide +kernel
theorem dX6_failingCells_20 : decode cX6_failingCells 20 = .ok (.iinc 1 1, 3) := by decide +kernel
theorem dX6_failingCells_23 : decode cX6_failingCells 23 = .ok (.iinc 2 1, 3) := by decide +kernel
theorem dX6_failingCells_26 : decode cX6_failingCells 26 = .ok (.goto (-22), 3) := by decide +kernel
theorem dX6_failingCells_29 : decode cX6_failingCells 29 = .ok (.iload_n 1, 1) := by decide +kernel
theorem dX6_failingCells_30 : decode cX6_failingCells 30 = .ok (.ireturn, 1) := by decide +kernel
theorem dX6_laneNow_0 : decode cX6_laneNow 0 = .ok (.aload_n 0, 1) := by decide +kernel
theorem dX6_laneNow_1 : decode cX6_laneNow 1 = .ok (.getfield 38, 3) := by decide +kernel
theorem dX6_laneNow_4 : decode cX6_laneNow 4 = .ok (.iload_n 1, 1) := by decide +kernel
theorem dX6_laneNow_5 : decode cX6_laneNow 5 = .ok (.iconst 0, 1) := by decide +kernel
theorem dX6_laneNow_6 : decode cX6_laneNow 6 = .ok (.invokevirtual 147, 3) := by decide +kernel
theorem dX6_laneNow_9 : decode cX6_laneNow 9 = .ok (.istore_n 3, 1) := by decide +kernel
theorem dX6_laneNow_10 : decode cX6_laneNow 10 = .ok (.iconst 0, 1) := by decide +kernel
theorem dX6_laneNow_11 : decode cX6_laneNow 11 = .ok (.istore 4, 2) := by decide +kernel
theorem dX6_laneNow_13 : decode cX6_laneNow 13 = .ok (.iload 4, 2) := by decide +kernel
theorem dX6_laneNow_15 : decode cX6_laneNow 15 = .ok (.aload_n 0, 1) := by decide +kernel
theorem dX6_laneNow_16 : decode cX6_laneNow 16 = .ok (.getfield 49, 3) := by decide +kernel
theorem dX6_laneNow_19 : decode cX6_laneNow 19 = .ok (.if_icmp .ge 43, 3) := by decide +kernel
theorem dX6_laneNow_22 : decode cX6_laneNow 22 = .ok (.aload_n 0, 1) := by decide +kernel
theorem dX6_laneNow_23 : decode cX6_laneNow 23 = .ok (.iload_n 3, 1) := by decide +kernel
theorem dX6_laneNow_24 : decode cX6_laneNow 24 = .ok (.iload 4, 2) := by decide +kernel
theorem dX6_laneNow_26 : decode cX6_laneNow 26 = .ok (.isub, 1) := by decide +kernel
theorem dX6_laneNow_27 : decode cX6_laneNow 27 = .ok (.iload_n 2, 1) := by decide +kernel
theorem dX6_laneNow_28 : decode cX6_laneNow 28 = .ok (.invokevirtual 150, 3) := by decide +kernel
theorem dX6_laneNow_31 : decode cX6_laneNow 31 = .ok (.ifCond .eq 8, 3) := by decide +kernel
theorem dX6_laneNow_34 : decode cX6_laneNow 34 = .ok (.iload_n 3, 1) := by decide +kernel
theorem dX6_laneNow_35 : decode cX6_laneNow 35 = .ok (.iload 4, 2) := by decide +kernel
theorem dX6_laneNow_37 : decode cX6_laneNow 37 = .ok (.isub, 1) := by decide +kernel
theorem dX6_laneNow_38 : decode cX6_laneNow 38 = .ok (.ireturn, 1) := by decide +kernel
theorem dX6_laneNow_39 : decode cX6_laneNow 39 = .ok (.aload_n 0, 1) := by decide +kernel
theorem dX6_laneNow_40 : decode cX6_laneNow 40 = .ok (.iload_n 3, 1) := by decide +kernel
theorem dX6_laneNow_41 : decode cX6_laneNow 41 = .ok (.iload 4, 2) := by decide +kernel
theorem dX6_laneNow_43 : decode cX6_laneNow 43 = .ok (.iadd, 1) := by decide +kernel
theorem dX6_laneNow_44 : decode cX6_laneNow 44 = .ok (.iload_n 2, 1) := by decide +kernel
theorem dX6_laneNow_45 : decode cX6_laneNow 45 = .ok (.invokevirtual 150, 3) := by decide +kernel
theorem dX6_laneNow_48 : decode cX6_laneNow 48 = .ok (.ifCond .eq 8, 3) := by decide +kernel
theorem dX6_laneNow_51 : decode cX6_laneNow 51 = .ok (.iload_n 3, 1) := by decide +kernel
theorem dX6_laneNow_52 : decode cX6_laneNow 52 = .ok (.iload 4, 2) := by decide +kernel
theorem dX6_laneNow_54 : decode cX6_laneNow 54 = .ok (.iadd, 1) := by decide +kernel
theorem dX6_laneNow_55 : decode cX6_laneNow 55 = .ok (.ireturn, 1) := by decide +kernel
theorem dX6_laneNow_56 : decode cX6_laneNow 56 = .ok (.iinc 4 1, 3) := by decide +kernel
theorem dX6_laneNow_59 : decode cX6_laneNow 59 = .ok (.goto (-46), 3) := by decide +kernel
theorem dX6_laneNow_62 : decode cX6_laneNow 62 = .ok (.iconst (-1), 1) := by decide +kernel
theorem dX6_laneNow_63 : decode cX6_laneNow 63 = .ok (.ireturn, 1) := by decide +kernel
theorem dX6_isOpen_0 : decode cX6_isOpen 0 = .ok (.iload_n 1, 1) := by decide +kernel
theorem dX6_isOpen_1 : decode cX6_isOpen 1 = .ok (.ifCond .lt 28, 3) := by decide +kernel
theorem dX6_isOpen_4 : decode cX6_isOpen 4 = .ok (.iload_n 1, 1) := by decide +kernel
theorem dX6_isOpen_5 : decode cX6_isOpen 5 = .ok (.aload_n 0, 1) := by decide +kernel
theorem dX6_isOpen_6 : decode cX6_isOpen 6 = .ok (.getfield 49, 3) := by decide +kernel
theorem dX6_isOpen_9 : decode cX6_isOpen 9 = .ok (.if_icmp .ge 20, 3) := by decide +kernel
theorem dX6_isOpen_12 : decode cX6_isOpen 12 = .ok (.iload_n 1, 1) := by decide +kernel
theorem dX6_isOpen_13 : decode cX6_isOpen 13 = .ok (.iload_n 2, 1) := by decide +kernel
theorem dX6_isOpen_14 : decode cX6_isOpen 14 = .ok (.if_icmp .eq 15, 3) := by decide +kernel
theorem dX6_isOpen_17 : decode cX6_isOpen 17 = .ok (.aload_n 0, 1) := by decide +kernel
theorem dX6_isOpen_18 : decode cX6_isOpen 18 = .ok (.iload_n 1, 1) := by decide +kernel
theorem dX6_isOpen_19 : decode cX6_isOpen 19 = .ok (.invokevirtual 154, 3) := by decide +kernel
theorem dX6_isOpen_22 : decode cX6_isOpen 22 = .ok (.ifCond .ne 7, 3) := by decide +kernel
theorem dX6_isOpen_25 : decode cX6_isOpen 25 = .ok (.iconst 1, 1) := by decide +kernel
theorem dX6_isOpen_26 : decode cX6_isOpen 26 = .ok (.goto 4, 3) := by decide +kernel
theorem dX6_isOpen_29 : decode cX6_isOpen 29 = .ok (.iconst 0, 1) := by decide +kernel
theorem dX6_isOpen_30 : decode cX6_isOpen 30 = .ok (.ireturn, 1) := by decide +kernel
theorem dX6_shareNow_0 : decode cX6_shareNow 0 = .ok (.aload_n 0, 1) := by decide +kernel
theorem dX6_shareNow_1 : decode cX6_shareNow 1 = .ok (.iload_n 1, 1) := by decide +kernel
theorem dX6_shareNow_2 : decode cX6_shareNow 2 = .ok (.iconst (-1), 1) := by decide +kernel
theorem dX6_shareNow_3 : decode cX6_shareNow 3 = .ok (.invokevirtual 157, 3) := by decide +kernel
theorem dX6_shareNow_6 : decode cX6_shareNow 6 = .ok (.aload_n 0, 1) := by decide +kernel
theorem dX6_shareNow_7 : decode cX6_shareNow 7 = .ok (.iload_n 2, 1) := by decide +kernel
theorem dX6_shareNow_8 : decode cX6_shareNow 8 = .ok (.invokevirtual 160, 3) := by decide +kernel
theorem dX6_shareNow_11 : decode cX6_shareNow 11 = .ok (.if_icmp .ne 19, 3) := by decide +kernel
theorem dX6_shareNow_14 : decode cX6_shareNow 14 = .ok (.aload_n 0, 1) := by decide +kernel
theorem dX6_shareNow_15 : decode cX6_shareNow 15 = .ok (.getfield 38, 3) := by decide +kernel
theorem dX6_shareNow_18 : decode cX6_shareNow 18 = .ok (.iload_n 1, 1) := by decide +kernel
theorem dX6_shareNow_19 : decode cX6_shareNow 19 = .ok (.aload_n 0, 1) := by decide +kernel
theorem dX6_shareNow_20 : decode cX6_shareNow 20 = .ok (.iload_n 2, 1) := by decide +kernel
theorem dX6_shareNow_21 : decode cX6_shareNow 21 = .ok (.invokevirtual 163, 3) := by decide +kernel
theorem dX6_shareNow_24 : decode cX6_shareNow 24 = .ok (.invokevirtual 166, 3) := by decide +kernel
theorem dX6_shareNow_27 : decode cX6_shareNow 27 = .ok (.ifCond .ne 5, 3) := by decide +kernel
theorem dX6_shareNow_30 : decode cX6_shareNow 30 = .ok (.lconst 0, 1) := by decide +kernel
theorem dX6_shareNow_31 : decode cX6_shareNow 31 = .ok (.lreturn, 1) := by decide +kernel
theorem dX6_shareNow_32 : decode cX6_shareNow 32 = .ok (.aload_n 0, 1) := by decide +kernel
theorem dX6_shareNow_33 : decode cX6_shareNow 33 = .ok (.getfield 38, 3) := by decide +kernel
theorem dX6_shareNow_36 : decode cX6_shareNow 36 = .ok (.iload_n 1, 1) := by decide +kernel
theorem dX6_shareNow_37 : decode cX6_shareNow 37 = .ok (.iconst 4, 1) := by decide +kernel
theorem dX6_shareNow_38 : decode cX6_shareNow 38 = .ok (.invokevirtual 147, 3) := by decide +kernel
theorem dX6_shareNow_41 : decode cX6_shareNow 41 = .ok (.aload_n 0, 1) := by decide +kernel
theorem dX6_shareNow_42 : decode cX6_shareNow 42 = .ok (.getfield 38, 3) := by decide +kernel
theorem dX6_shareNow_45 : decode cX6_shareNow 45 = .ok (.iload_n 1, 1) := by decide +kernel
theorem dX6_shareNow_46 : decode cX6_shareNow 46 = .ok (.iconst 3, 1) := by decide +kernel
theorem dX6_shareNow_47 : decode cX6_shareNow 47 = .ok (.invokevirtual 147, 3) := by decide +kernel
theorem dX6_shareNow_50 : decode cX6_shareNow 50 = .ok (.invokestatic 169, 3) := by decide +kernel
theorem dX6_shareNow_53 : decode cX6_shareNow 53 = .ok (.lreturn, 1) := by decide +kernel
theorem dX6_baseNow_0 : decode cX6_baseNow 0 = .ok (.lconst 0, 1) := by decide +kernel
theorem dX6_baseNow_1 : decode cX6_baseNow 1 = .ok (.lstore_n 2, 1) := by decide +kernel
theorem dX6_baseNow_2 : decode cX6_baseNow 2 = .ok (.iconst 0, 1) := by decide +kernel
theorem dX6_baseNow_3 : decode cX6_baseNow 3 = .ok (.istore 4, 2) := by decide +kernel
theorem dX6_baseNow_5 : decode cX6_baseNow 5 = .ok (.iload 4, 2) := by decide +kernel
theorem dX6_baseNow_7 : decode cX6_baseNow 7 = .ok (.aload_n 0, 1) := by decide +kernel
theorem dX6_baseNow_8 : decode cX6_baseNow 8 = .ok (.getfield 38, 3) := by decide +kernel
theorem dX6_baseNow_11 : decode cX6_baseNow 11 = .ok (.getfield 81, 3) := by decide +kernel
theorem dX6_baseNow_14 : decode cX6_baseNow 14 = .ok (.if_icmp .ge 19, 3) := by decide +kernel
theorem dX6_baseNow_17 : decode cX6_baseNow 17 = .ok (.lload_n 2, 1) := by decide +kernel
theorem dX6_baseNow_18 : decode cX6_baseNow 18 = .ok (.aload_n 0, 1) := by decide +kernel
theorem dX6_baseNow_19 : decode cX6_baseNow 19 = .ok (.iload 4, 2) := by decide +kernel
theorem dX6_baseNow_21 : decode cX6_baseNow 21 = .ok (.iload_n 1, 1) := by decide +kernel
theorem dX6_baseNow_22 : decode cX6_baseNow 22 = .ok (.invokevirtual 173, 3) := by decide +kernel
theorem dX6_baseNow_25 : decode cX6_baseNow 25 = .ok (.ladd, 1) := by decide +kernel
theorem dX6_baseNow_26 : decode cX6_baseNow 26 = .ok (.lstore_n 2, 1) := by decide +kernel
theorem dX6_baseNow_27 : decode cX6_baseNow 27 = .ok (.iinc 4 1, 3) := by decide +kernel
theorem dX6_baseNow_30 : decode cX6_baseNow 30 = .ok (.goto (-25), 3) := by decide +kernel
theorem dX6_baseNow_33 : decode cX6_baseNow 33 = .ok (.lload_n 2, 1) := by decide +kernel
theorem dX6_baseNow_34 : decode cX6_baseNow 34 = .ok (.lreturn, 1) := by decide +kernel
theorem dX6_unitsBy_0 : decode cX6_unitsBy 0 = .ok (.lload_n 0, 1) := by decide +kernel
theorem dX6_unitsBy_1 : decode cX6_unitsBy 1 = .ok (.sipush 1000, 3) := by decide +kernel
theorem dX6_unitsBy_4 : decode cX6_unitsBy 4 = .ok (.iload_n 2, 1) := by decide +kernel
theorem dX6_unitsBy_5 : decode cX6_unitsBy 5 = .ok (.iadd, 1) := by decide +kernel
theorem dX6_unitsBy_6 : decode cX6_unitsBy 6 = .ok (.i2l, 1) := by decide +kernel
theorem dX6_unitsBy_7 : decode cX6_unitsBy 7 = .ok (.lmul, 1) := by decide +kernel
theorem dX6_unitsBy_8 : decode cX6_unitsBy 8 = .ok (.ldc2_w 176, 3) := by decide +kernel
theorem dX6_unitsBy_11 : decode cX6_unitsBy 11 = .ok (.ldiv, 1) := by decide +kernel
theorem dX6_unitsBy_12 : decode cX6_unitsBy 12 = .ok (.lreturn, 1) := by decide +kernel
theorem dX7_init_0 : decode cX7_init 0 = .ok (.aload_n 0, 1) := by decide +kernel
theorem dX7_init_1 : decode cX7_init 1 = .ok (.invokespecial 3, 3) := by decide +kernel
theorem dX7_init_4 : decode cX7_init 4 = .ok (.aload_n 0, 1) := by decide +kernel
theorem dX7_init_5 : decode cX7_init 5 = .ok (.new 9, 3) := by decide +kernel
theorem dX7_init_8 : decode cX7_init 8 = .ok (.dup, 1) := by decide +kernel
theorem dX7_init_9 : decode cX7_init 9 = .ok (.invokespecial 11, 3) := by decide +kernel
theorem dX7_init_12 : decode cX7_init 12 = .ok (.putfield 12, 3) := by decide +kernel
theorem dX7_init_15 : decode cX7_init 15 = .ok (.aload_n 0, 1) := by decide +kernel
theorem dX7_init_16 : decode cX7_init 16 = .ok (.new 18, 3) := by decide +kernel
theorem dX7_init_19 : decode cX7_init 19 = .ok (.dup, 1) := by decide +kernel
theorem dX7_init_20 : decode cX7_init 20 = .ok (.invokespecial 20, 3) := by decide +kernel
theorem dX7_init_23 : decode cX7_init 23 = .ok (.putfield 21, 3) := by decide +kernel
theorem dX7_init_26 : decode cX7_init 26 = .ok (.aload_n 0, 1) := by decide +kernel
theorem dX7_init_27 : decode cX7_init 27 = .ok (.iconst 0, 1) := by decide +kernel
theorem dX7_init_28 : decode cX7_init 28 = .ok (.putfield 25, 3) := by decide +kernel
theorem dX7_init_31 : decode cX7_init 31 = .ok (.aload_n 0, 1) := by decide +kernel
theorem dX7_init_32 : decode cX7_init 32 = .ok (.iconst (-1), 1) := by decide +kernel
theorem dX7_init_33 : decode cX7_init 33 = .ok (.putfield 29, 3) := by decide +kernel
theorem dX7_init_36 : decode cX7_init 36 = .ok (.return_, 1) := by decide +kernel
theorem dX7_read_0 : decode cX7_read 0 = .ok (.aload_n 0, 1) := by decide +kernel
theorem dX7_read_1 : decode cX7_read 1 = .ok (.getfield 21, 3) := by decide +kernel
theorem dX7_read_4 : decode cX7_read 4 = .ok (.invokevirtual 32, 3) := by decide +kernel
theorem dX7_read_7 : decode cX7_read 7 = .ok (.aload_n 0, 1) := by decide +kernel
theorem dX7_read_8 : decode cX7_read 8 = .ok (.iconst 0, 1) := by decide +kernel
theorem dX7_read_9 : decode cX7_read 9 = .ok (.putfield 35, 3) := by decide +kernel
theorem dX7_read_12 : decode cX7_read 12 = .ok (.aload_n 0, 1) := by decide +kernel
theorem dX7_read_13 : decode cX7_read 13 = .ok (.iconst 0, 1) := by decide +kernel
theorem dX7_read_14 : decode cX7_read 14 = .ok (.putfield 39, 3) := by decide +kernel
theorem dX7_read_17 : decode cX7_read 17 = .ok (.aload_n 0, 1) := by decide +kernel
theorem dX7_read_18 : decode cX7_read 18 = .ok (.iconst 0, 1) := by decide +kernel
theorem dX7_read_19 : decode cX7_read 19 = .ok (.putfield 25, 3) := by decide +kernel
theorem dX7_read_22 : decode cX7_read 22 = .ok (.aload_n 0, 1) := by decide +kernel
theorem dX7_read_23 : decode cX7_read 23 = .ok (.iconst (-1), 1) := by decide +kernel
theorem dX7_read_24 : decode cX7_read 24 = .ok (.putfield 29, 3) := by decide +kernel
theorem dX7_read_27 : decode cX7_read 27 = .ok (.aload_n 0, 1) := by decide +kernel
theorem dX7_read_28 : decode cX7_read 28 = .ok (.getfield 12, 3) := by decide +kernel
theorem dX7_read_31 : decode cX7_read 31 = .ok (.invokevirtual 42, 3) := by decide +kernel
theorem dX7_read_34 : decode cX7_read 34 = .ok (.aload_n 0, 1) := by decide +kernel
theorem dX7_read_35 : decode cX7_read 35 = .ok (.invokevirtual 45, 3) := by decide +kernel
theorem dX7_read_38 : decode cX7_read 38 = .ok (.ifCond .ne 5, 3) := by decide +kernel
theorem dX7_read_41 : decode cX7_read 41 = .ok (.iconst 0, 1) := by decide +kernel
theorem dX7_read_42 : decode cX7_read 42 = .ok (.ireturn, 1) := by decide +kernel
theorem dX7_read_43 : decode cX7_read 43 = .ok (.iconst 0, 1) := by decide +kernel
theorem dX7_read_44 : decode cX7_read 44 = .ok (.istore_n 1, 1) := by decide +kernel
theorem dX7_read_45 : decode cX7_read 45 = .ok (.iload_n 1, 1) := by decide +kernel
theorem dX7_read_46 : decode cX7_read 46 = .ok (.sipush 700, 3) := by decide +kernel
theorem dX7_read_49 : decode cX7_read 49 = .ok (.if_icmp .ge 28, 3) := by decide +kernel
theorem dX7_read_52 : decode cX7_read 52 = .ok (.aload_n 0, 1) := by decide +kernel
theorem dX7_read_53 : decode cX7_read 53 = .ok (.getfield 12, 3) := by decide +kernel
theorem dX7_read_56 : decode cX7_read 56 = .ok (.getfield 49, 3) := by decide +kernel
theorem dX7_read_59 : decode cX7_read 59 = .ok (.ifCond .eq 18, 3) := by decide +kernel
theorem dX7_read_62 : decode cX7_read 62 = .ok (.aload_n 0, 1) := by decide +kernel
theorem dX7_read_63 : decode cX7_read 63 = .ok (.invokevirtual 52, 3) := by decide +kernel
theorem dX7_read_66 : decode cX7_read 66 = .ok (.ifCond .ne 5, 3) := by decide +kernel
theorem dX7_read_69 : decode cX7_read 69 = .ok (.iconst 0, 1) := by decide +kernel
theorem dX7_read_70 : decode cX7_read 70 = .ok (.ireturn, 1) := by decide +kernel
theorem dX7_read_71 : decode cX7_read 71 = .ok (.iinc 1 1, 3) := by decide +kernel
theorem dX7_read_74 : decode cX7_read 74 = .ok (.goto (-29), 3) := by decide +kernel
theorem dX7_read_77 : decode cX7_read 77 = .ok (.iconst 1, 1) := by decide +kernel
theorem dX7_read_78 : decode cX7_read 78 = .ok (.ireturn, 1) := by decide +kernel
theorem dX7_failAt_0 : decode cX7_failAt 0 = .ok (.aload_n 0, 1) := by decide +kernel
theorem dX7_failAt_1 : decode cX7_failAt 1 = .ok (.iload_n 1, 1) := by decide +kernel
theorem dX7_failAt_2 : decode cX7_failAt 2 = .ok (.putfield 25, 3) := by decide +kernel
theorem dX7_failAt_5 : decode cX7_failAt 5 = .ok (.aload_n 0, 1) := by decide +kernel
theorem dX7_failAt_6 : decode cX7_failAt 6 = .ok (.iload_n 2, 1) := by decide +kernel
theorem dX7_failAt_7 : decode cX7_failAt 7 = .ok (.putfield 29, 3) := by decide +kernel
theorem dX7_failAt_10 : decode cX7_failAt 10 = .ok (.iconst 0, 1) := by decide +kernel
theorem dX7_failAt_11 : decode cX7_failAt 11 = .ok (.ireturn, 1) := by decide +kernel
theorem dX7_failHere_0 : decode cX7_failHere 0 = .ok (.aload_n 0, 1) := by decide +kernel
theorem dX7_failHere_1 : decode cX7_failHere 1 = .ok (.iload_n 1, 1) := by decide +kernel
theorem dX7_failHere_2 : decode cX7_failHere 2 = .ok (.putfield 25, 3) := by decide +kernel
theorem dX7_failHere_5 : decode cX7_failHere 5 = .ok (.aload_n 0, 1) := by decide +kernel
theorem dX7_failHere_6 : decode cX7_failHere 6 = .ok (.aload_n 0, 1) := by decide +kernel
theorem dX7_failHere_7 : decode cX7_failHere 7 = .ok (.getfield 12, 3) := by decide +kernel
theorem dX7_failHere_10 : decode cX7_failHere 10 = .ok (.getfield 55, 3) := by decide +kernel
theorem dX7_failHere_13 : decode cX7_failHere 13 = .ok (.putfield 29, 3) := by decide +kernel
theorem dX7_failHere_16 : decode cX7_failHere 16 = .ok (.iconst 0, 1) := by decide +kernel
theorem dX7_failHere_17 : decode cX7_failHere 17 = .ok (.ireturn, 1) := by decide +kernel
theorem dX7_readRoad_0 : decode cX7_readRoad 0 = .ok (.aload_n 0, 1) := by decide +kernel
theorem dX7_readRoad_1 : decode cX7_readRoad 1 = .ok (.getfield 12, 3) := by decide +kernel
theorem dX7_readRoad_4 : decode cX7_readRoad 4 = .ok (.ldc 58, 2) := by decide +kernel
theorem dX7_readRoad_6 : decode cX7_readRoad 6 = .ok (.invokevirtual 60, 3) := by decide +kernel
theorem dX7_readRoad_9 : decode cX7_readRoad 9 = .ok (.ifCond .ne 9, 3) := by decide +kernel
theorem dX7_readRoad_12 : decode cX7_readRoad 12 = .ok (.aload_n 0, 1) := by decide +kernel
theorem dX7_readRoad_13 : decode cX7_readRoad 13 = .ok (.iconst 1, 1) := by decide +kernel
theorem dX7_readRoad_14 : decode cX7_readRoad 14 = .ok (.invokevirtual 64, 3) := by decide +kernel
theorem dX7_readRoad_17 : decode cX7_readRoad 17 = .ok (.ireturn, 1) := by decide +kernel
theorem dX7_readRoad_18 : decode cX7_readRoad 18 = .ok (.aload_n 0, 1) := by decide +kernel
theorem dX7_readRoad_19 : decode cX7_readRoad 19 = .ok (.getfield 12, 3) := by decide +kernel
theorem dX7_readRoad_22 : decode cX7_readRoad 22 = .ok (.invokevirtual 68, 3) := by decide +kernel
theorem dX7_readRoad_25 : decode cX7_readRoad 25 = .ok (.aload_n 0, 1) := by decide +kernel
theorem dX7_readRoad_26 : decode cX7_readRoad 26 = .ok (.iconst 1, 1) := by decide +kernel
theorem dX7_readRoad_27 : decode cX7_readRoad 27 = .ok (.bipush 16, 2) := by decide +kernel
theorem dX7_readRoad_29 : decode cX7_readRoad 29 = .ok (.invokevirtual 71, 3) := by decide +kernel
theorem dX7_readRoad_32 : decode cX7_readRoad 32 = .ok (.ifCond .ne 5, 3) := by decide +kernel
theorem dX7_readRoad_35 : decode cX7_readRoad 35 = .ok (.iconst 0, 1) := by decide +kernel
theorem dX7_readRoad_36 : decode cX7_readRoad 36 = .ok (.ireturn, 1) := by decide +kernel
theorem dX7_readRoad_37 : decode cX7_readRoad 37 = .ok (.aload_n 0, 1) := by decide +kernel
theorem dX7_readRoad_38 : decode cX7_readRoad 38 = .ok (.getfield 21, 3) := by decide +kernel
theorem dX7_readRoad_41 : decode cX7_readRoad 41 = .ok (.aload_n 0, 1) := by decide +kernel
theorem dX7_readRoad_42 : decode cX7_readRoad 42 = .ok (.getfield 75, 3) := by decide +kernel
theorem dX7_readRoad_45 : decode cX7_readRoad 45 = .ok (.putfield 78, 3) := by decide +kernel
theorem dX7_readRoad_48 : decode cX7_readRoad 48 = .ok (.aload_n 0, 1) := by decide +kernel
theorem dX7_readRoad_49 : decode cX7_readRoad 49 = .ok (.iconst 1, 1) := by decide +kernel
theorem dX7_readRoad_50 : decode cX7_readRoad 50 = .ok (.iconst 4, 1) := by decide +kernel
theorem dX7_readRoad_51 : decode cX7_readRoad 51 = .ok (.invokevirtual 71, 3) := by decide +kernel
theorem dX7_readRoad_54 : decode cX7_readRoad 54 = .ok (.ifCond .ne 5, 3) := by decide +kernel
theorem dX7_readRoad_57 : decode cX7_readRoad 57 = .ok (.iconst 0, 1) := by decide +kernel
theorem dX7_readRoad_58 : decode cX7_readRoad 58 = .ok (.ireturn, 1) := by decide +kernel
theorem dX7_readRoad_59 : decode cX7_readRoad 59 = .ok (.aload_n 0, 1) := by decide +kernel
theorem dX7_readRoad_60 : decode cX7_readRoad 60 = .ok (.getfield 21, 3) := by decide +kernel
theorem dX7_readRoad_63 : decode cX7_readRoad 63 = .ok (.aload_n 0, 1) := by decide +kernel
theorem dX7_readRoad_64 : decode cX7_readRoad 64 = .ok (.getfield 75, 3) := by decide +kernel
theorem dX7_readRoad_67 : decode cX7_readRoad 67 = .ok (.putfield 81, 3) := by decide +kernel
theorem dX7_readRoad_70 : decode cX7_readRoad 70 = .ok (.aload_n 0, 1) := by decide +kernel
theorem dX7_readRoad_71 : decode cX7_readRoad 71 = .ok (.invokevirtual 84, 3) := by decide +kernel
theorem dX7_readRoad_74 : decode cX7_readRoad 74 = .ok (.ireturn, 1) := by decide +kernel
theorem dX7_readStatement_0 : decode cX7_readStatement 0 = .ok (.aload_n 0, 1) := by decide +kernel
theorem dX7_readStatement_1 : decode cX7_readStatement 1 = .ok (.getfield 12, 3) := by decide +kernel
theorem dX7_readStatement_4 : decode cX7_readStatement 4 = .ok (.ldc 87, 2) := by decide +kernel
theorem dX7_readStatement_6 : decode cX7_readStatement 6 = .ok (.invokevirtual 60, 3) := by decide +kernel
theorem dX7_readStatement_9 : decode cX7_readStatement 9 = .ok (.ifCond .eq 8, 3) := by decide +kernel
theorem dX7_readStatement_12 : decode cX7_readStatement 12 = .ok (.aload_n 0, 1) := by decide +kernel
theorem dX7_readStatement_13 : decode cX7_readStatement 13 = .ok (.invokevirtual 89, 3) := by decide +kernel
theorem dX7_readStatement_16 : decode cX7_readStatement 16 = .ok (.ireturn, 1) := by decide +kernel
theorem dX7_readStatement_17 : decode cX7_readStatement 17 = .ok (.aload_n 0, 1) := by decide +kernel
theorem dX7_readStatement_18 : decode cX7_readStatement 18 = .ok (.getfield 12, 3) := by decide +kernel
theorem dX7_readStatement_21 : decode cX7_readStatement 21 = .ok (.ldc 92, 2) := by decide +kernel
theorem dX7_readStatement_23 : decode cX7_readStatement 23 = .ok (.invokevirtual 60, 3) := by decide +kernel
theorem dX7_readStatement_26 : decode cX7_readStatement 26 = .ok (.ifCond .eq 8, 3) := by decide +kernel
theorem dX7_readStatement_29 : decode cX7_readStatement 29 = .ok (.aload_n 0, 1) := by decide +kernel
theorem dX7_readStatement_30 : decode cX7_readStatement 30 = .ok (.invokevirtual 94, 3) := by decide +kernel
theorem dX7_readStatement_33 : decode cX7_readStatement 33 = .ok (.ireturn, 1) := by decide +kernel
theorem dX7_readStatement_34 : decode cX7_readStatement 34 = .ok (.aload_n 0, 1) := by decide +kernel
theorem dX7_readStatement_35 : decode cX7_readStatement 35 = .ok (.getfield 12, 3) := by decide +kernel
theorem dX7_readStatement_38 : decode cX7_readStatement 38 = .ok (.ldc 97, 2) := by decide +kernel
theorem dX7_readStatement_40 : decode cX7_readStatement 40 = .ok (.invokevirtual 60, 3) := by decide +kernel
theorem dX7_readStatement_43 : decode cX7_readStatement 43 = .ok (.ifCond .eq 8, 3) := by decide +kernel
theorem dX7_readStatement_46 : decode cX7_readStatement 46 = .ok (.aload_n 0, 1) := by decide +kernel
theorem dX7_readStatement_47 : decode cX7_readStatement 47 = .ok (.invokevirtual 99, 3) := by decide +kernel
theorem dX7_readStatement_50 : decode cX7_readStatement 50 = .ok (.ireturn, 1) := by decide +kernel
theorem dX7_readStatement_51 : decode cX7_readStatement 51 = .ok (.aload_n 0, 1) := by decide +kernel
theorem dX7_readStatement_52 : decode cX7_readStatement 52 = .ok (.getfield 12, 3) := by decide +kernel
theorem dX7_readStatement_55 : decode cX7_readStatement 55 = .ok (.ldc 102, 2) := by decide +kernel
theorem dX7_readStatement_57 : decode cX7_readStatement 57 = .ok (.invokevirtual 60, 3) := by decide +kernel
theorem dX7_readStatement_60 : decode cX7_readStatement 60 = .ok (.ifCond .eq 8, 3) := by decide +kernel
theorem dX7_readStatement_63 : decode cX7_readStatement 63 = .ok (.aload_n 0, 1) := by decide +kernel
theorem dX7_readStatement_64 : decode cX7_readStatement 64 = .ok (.invokevirtual 104, 3) := by decide +kernel
theorem dX7_readStatement_67 : decode cX7_readStatement 67 = .ok (.ireturn, 1) := by decide +kernel
theorem dX7_readStatement_68 : decode cX7_readStatement 68 = .ok (.aload_n 0, 1) := by decide +kernel
theorem dX7_readStatement_69 : decode cX7_readStatement 69 = .ok (.invokevirtual 107, 3) := by decide +kernel
theorem dX7_readStatement_72 : decode cX7_readStatement 72 = .ok (.istore_n 1, 1) := by decide +kernel
theorem dX7_readStatement_73 : decode cX7_readStatement 73 = .ok (.iload_n 1, 1) := by decide +kernel
theorem dX7_readStatement_74 : decode cX7_readStatement 74 = .ok (.iconst (-1), 1) := by decide +kernel
theorem dX7_readStatement_75 : decode cX7_readStatement 75 = .ok (.if_icmp .ne 11, 3) := by decide +kernel
theorem dX7_readStatement_78 : decode cX7_readStatement 78 = .ok (.aload_n 0, 1) := by decide +kernel
theorem dX7_readStatement_79 : decode cX7_readStatement 79 = .ok (.iconst 1, 1) := by decide +kernel
theorem dX7_readStatement_80 : decode cX7_readStatement 80 = .ok (.invokevirtual 64, 3) := by decide +kernel
theorem dX7_readStatement_83 : decode cX7_readStatement 83 = .ok (.goto 8, 3) := by decide +kernel
theorem dX7_readStatement_86 : decode cX7_readStatement 86 = .ok (.aload_n 0, 1) := by decide +kernel
theorem dX7_readStatement_87 : decode cX7_readStatement 87 = .ok (.iload_n 1, 1) := by decide +kernel
theorem dX7_readStatement_88 : decode cX7_readStatement 88 = .ok (.invokevirtual 111, 3) := by decide +kernel
theorem dX7_readStatement_91 : decode cX7_readStatement 91 = .ok (.ireturn, 1) := by decide +kernel
theorem dX7_readCore_0 : decode cX7_readCore 0 = .ok (.aload_n 0, 1) := by decide +kernel
theorem dX7_readCore_1 : decode cX7_readCore 1 = .ok (.getfield 21, 3) := by decide +kernel
theorem dX7_readCore_4 : decode cX7_readCore 4 = .ok (.getfield 114, 3) := by decide +kernel
theorem dX7_readCore_7 : decode cX7_readCore 7 = .ok (.getfield 118, 3) := by decide +kernel
theorem dX7_readCore_10 : decode cX7_readCore 10 = .ok (.bipush 12, 2) := by decide +kernel
theorem dX7_readCore_12 : decode cX7_readCore 12 = .ok (.if_icmp .lt 9, 3) := by decide +kernel
theorem dX7_readCore_15 : decode cX7_readCore 15 = .ok (.aload_n 0, 1) := by decide +kernel
theorem dX7_readCore_16 : decode cX7_readCore 16 = .ok (.iconst 4, 1) := by decide +kernel
theorem dX7_readCore_17 : decode cX7_readCore 17 = .ok (.invokevirtual 64, 3) := by decide +kernel
theorem dX7_readCore_20 : decode cX7_readCore 20 = .ok (.ireturn, 1) := by decide +kernel
theorem dX7_readCore_21 : decode cX7_readCore 21 = .ok (.aload_n 0, 1) := by decide +kernel
theorem dX7_readCore_22 : decode cX7_readCore 22 = .ok (.getfield 12, 3) := by decide +kernel
theorem dX7_readCore_25 : decode cX7_readCore 25 = .ok (.invokevirtual 68, 3) := by decide +kernel
theorem dX7_readCore_28 : decode cX7_readCore 28 = .ok (.aload_n 0, 1) := by decide +kernel
theorem dX7_readCore_29 : decode cX7_readCore 29 = .ok (.invokevirtual 123, 3) := by decide +kernel
theorem dX7_readCore_32 : decode cX7_readCore 32 = .ok (.ifCond .ne 5, 3) := by decide +kernel
theorem dX7_readCore_35 : decode cX7_readCore 35 = .ok (.iconst 0, 1) := by decide +kernel
theorem dX7_readCore_36 : decode cX7_readCore 36 = .ok (.ireturn, 1) := by decide +kernel
theorem dX7_readCore_37 : decode cX7_readCore 37 = .ok (.aload_n 0, 1) := by decide +kernel
theorem dX7_readCore_38 : decode cX7_readCore 38 = .ok (.getfield 21, 3) := by decide +kernel
theorem dX7_readCore_41 : decode cX7_readCore 41 = .ok (.getfield 114, 3) := by decide +kernel
theorem dX7_readCore_44 : decode cX7_readCore 44 = .ok (.aload_n 0, 1) := by decide +kernel
theorem dX7_readCore_45 : decode cX7_readCore 45 = .ok (.getfield 126, 3) := by decide +kernel
theorem dX7_readCore_48 : decode cX7_readCore 48 = .ok (.invokevirtual 129, 3) := by decide +kernel
theorem dX7_readCore_51 : decode cX7_readCore 51 = .ok (.iconst (-1), 1) := by decide +kernel
theorem dX7_readCore_52 : decode cX7_readCore 52 = .ok (.if_icmp .eq 13, 3) := by decide +kernel
theorem dX7_readCore_55 : decode cX7_readCore 55 = .ok (.aload_n 0, 1) := by decide +kernel
theorem dX7_readCore_56 : decode cX7_readCore 56 = .ok (.iconst 3, 1) := by decide +kernel
theorem dX7_readCore_57 : decode cX7_readCore 57 = .ok (.aload_n 0, 1) := by decide +kernel
theorem dX7_readCore_58 : decode cX7_readCore 58 = .ok (.getfield 133, 3) := by decide +kernel
theorem dX7_readCore_61 : decode cX7_readCore 61 = .ok (.invokevirtual 136, 3) := by decide +kernel
theorem dX7_readCore_64 : decode cX7_readCore 64 = .ok (.ireturn, 1) := by decide +kernel
theorem dX7_readCore_65 : decode cX7_readCore 65 = .ok (.aload_n 0, 1) := by decide +kernel
theorem dX7_readCore_66 : decode cX7_readCore 66 = .ok (.aload_n 0, 1) := by decide +kernel
theorem dX7_readCore_67 : decode cX7_readCore 67 = .ok (.getfield 21, 3) := by decide +kernel
theorem dX7_readCore_70 : decode cX7_readCore 70 = .ok (.getfield 114, 3) := by decide +kernel
theorem dX7_readCore_73 : decode cX7_readCore 73 = .ok (.aload_n 0, 1) := by decide +kernel
theorem dX7_readCore_74 : decode cX7_readCore 74 = .ok (.getfield 126, 3) := by decide +kernel
theorem dX7_readCore_77 : decode cX7_readCore 77 = .ok (.invokevirtual 139, 3) := by decide +kernel
theorem dX7_readCore_80 : decode cX7_readCore 80 = .ok (.invokevirtual 142, 3) := by decide +kernel
theorem dX7_readCore_83 : decode cX7_readCore 83 = .ok (.ifCond .eq 14, 3) := by decide +kernel
theorem dX7_readCore_86 : decode cX7_readCore 86 = .ok (.aload_n 0, 1) := by decide +kernel
theorem dX7_readCore_87 : decode cX7_readCore 87 = .ok (.invokevirtual 84, 3) := by decide +kernel
theorem dX7_readCore_90 : decode cX7_readCore 90 = .ok (.ifCond .eq 7, 3) := by decide +kernel
theorem dX7_readCore_93 : decode cX7_readCore 93 = .ok (.iconst 1, 1) := by decide +kernel
theorem dX7_readCore_94 : decode cX7_readCore 94 = .ok (.goto 4, 3) := by decide +kernel
theorem dX7_readCore_97 : decode cX7_readCore 97 = .ok (.iconst 0, 1) := by decide +kernel
theorem dX7_readCore_98 : decode cX7_readCore 98 = .ok (.ireturn, 1) := by decide +kernel
theorem dX7_readDesign_0 : decode cX7_readDesign 0 = .ok (.aload_n 0, 1) := by decide +kernel
theorem dX7_readDesign_1 : decode cX7_readDesign 1 = .ok (.getfield 35, 3) := by decide +kernel
theorem dX7_readDesign_4 : decode cX7_readDesign 4 = .ok (.ifCond .eq 9, 3) := by decide +kernel
theorem dX7_readDesign_7 : decode cX7_readDesign 7 = .ok (.aload_n 0, 1) := by decide +kernel
theorem dX7_readDesign_8 : decode cX7_readDesign 8 = .ok (.iconst 3, 1) := by decide +kernel
theorem dX7_readDesign_9 : decode cX7_readDesign 9 = .ok (.invokevirtual 64, 3) := by decide +kernel
theorem dX7_readDesign_12 : decode cX7_readDesign 12 = .ok (.ireturn, 1) := by decide +kernel
theorem dX7_readDesign_13 : decode cX7_readDesign 13 = .ok (.aload_n 0, 1) := by decide +kernel
theorem dX7_readDesign_14 : decode cX7_readDesign 14 = .ok (.iconst 1, 1) := by decide +kernel
theorem dX7_readDesign_15 : decode cX7_readDesign 15 = .ok (.putfield 35, 3) := by decide +kernel
theorem dX7_readDesign_18 : decode cX7_readDesign 18 = .ok (.aload_n 0, 1) := by decide +kernel
theorem dX7_readDesign_19 : decode cX7_readDesign 19 = .ok (.getfield 12, 3) := by decide +kernel
theorem dX7_readDesign_22 : decode cX7_readDesign 22 = .ok (.invokevirtual 68, 3) := by decide +kernel
theorem dX7_readDesign_25 : decode cX7_readDesign 25 = .ok (.aload_n 0, 1) := by decide +kernel
theorem dX7_readDesign_26 : decode cX7_readDesign 26 = .ok (.getfield 21, 3) := by decide +kernel
theorem dX7_readDesign_29 : decode cX7_readDesign 29 = .ok (.getfield 114, 3) := by decide +kernel
theorem dX7_readDesign_32 : decode cX7_readDesign 32 = .ok (.getfield 145, 3) := by decide +kernel
theorem dX7_readDesign_35 : decode cX7_readDesign 35 = .ok (.bipush 12, 2) := by decide +kernel
theorem dX7_readDesign_37 : decode cX7_readDesign 37 = .ok (.iconst 0, 1) := by decide +kernel
theorem dX7_readDesign_38 : decode cX7_readDesign 38 = .ok (.iastore, 1) := by decide +kernel
theorem dX7_readDesign_39 : decode cX7_readDesign 39 = .ok (.aload_n 0, 1) := by decide +kernel
theorem dX7_readDesign_40 : decode cX7_readDesign 40 = .ok (.bipush 12, 2) := by decide +kernel
theorem dX7_readDesign_42 : decode cX7_readDesign 42 = .ok (.invokevirtual 142, 3) := by decide +kernel
theorem dX7_readDesign_45 : decode cX7_readDesign 45 = .ok (.ifCond .eq 14, 3) := by decide +kernel
theorem dX7_readDesign_48 : decode cX7_readDesign 48 = .ok (.aload_n 0, 1) := by decide +kernel
theorem dX7_readDesign_49 : decode cX7_readDesign 49 = .ok (.invokevirtual 84, 3) := by decide +kernel
theorem dX7_readDesign_52 : decode cX7_readDesign 52 = .ok (.ifCond .eq 7, 3) := by decide +kernel
theorem dX7_readDesign_55 : decode cX7_readDesign 55 = .ok (.iconst 1, 1) := by decide +kernel
theorem dX7_readDesign_56 : decode cX7_readDesign 56 = .ok (.goto 4, 3) := by decide +kernel
theorem dX7_readDesign_59 : decode cX7_readDesign 59 = .ok (.iconst 0, 1) := by decide +kernel
theorem dX7_readDesign_60 : decode cX7_readDesign 60 = .ok (.ireturn, 1) := by decide +kernel
theorem dX7_readLoad_0 : decode cX7_readLoad 0 = .ok (.aload_n 0, 1) := by decide +kernel
theorem dX7_readLoad_1 : decode cX7_readLoad 1 = .ok (.getfield 21, 3) := by decide +kernel
theorem dX7_readLoad_4 : decode cX7_readLoad 4 = .ok (.getfield 149, 3) := by decide +kernel
theorem dX7_readLoad_7 : decode cX7_readLoad 7 = .ok (.getfield 153, 3) := by decide +kernel
theorem dX7_readLoad_10 : decode cX7_readLoad 10 = .ok (.bipush 10, 2) := by decide +kernel
theorem dX7_readLoad_12 : decode cX7_readLoad 12 = .ok (.if_icmp .lt 9, 3) := by decide +kernel
theorem dX7_readLoad_15 : decode cX7_readLoad 15 = .ok (.aload_n 0, 1) := by decide +kernel
theorem dX7_readLoad_16 : decode cX7_readLoad 16 = .ok (.iconst 4, 1) := by decide +kernel
theorem dX7_readLoad_17 : decode cX7_readLoad 17 = .ok (.invokevirtual 64, 3) := by decide +kernel
theorem dX7_readLoad_20 : decode cX7_readLoad 20 = .ok (.ireturn, 1) := by decide +kernel
theorem dX7_readLoad_21 : decode cX7_readLoad 21 = .ok (.aload_n 0, 1) := by decide +kernel
theorem dX7_readLoad_22 : decode cX7_readLoad 22 = .ok (.getfield 12, 3) := by decide +kernel
theorem dX7_readLoad_25 : decode cX7_readLoad 25 = .ok (.invokevirtual 68, 3) := by decide +kernel
theorem dX7_readLoad_28 : decode cX7_readLoad 28 = .ok (.aload_n 0, 1) := by decide +kernel
theorem dX7_readLoad_29 : decode cX7_readLoad 29 = .ok (.iconst 0, 1) := by decide +kernel
theorem dX7_readLoad_30 : decode cX7_readLoad 30 = .ok (.aload_n 0, 1) := by decide +kernel
theorem dX7_readLoad_31 : decode cX7_readLoad 31 = .ok (.getfield 21, 3) := by decide +kernel
theorem dX7_readLoad_34 : decode cX7_readLoad 34 = .ok (.getfield 81, 3) := by decide +kernel
theorem dX7_readLoad_37 : decode cX7_readLoad 37 = .ok (.iconst 1, 1) := by decide +kernel
theorem dX7_readLoad_38 : decode cX7_readLoad 38 = .ok (.isub, 1) := by decide +kernel
theorem dX7_readLoad_39 : decode cX7_readLoad 39 = .ok (.invokevirtual 71, 3) := by decide +kernel
theorem dX7_readLoad_42 : decode cX7_readLoad 42 = .ok (.ifCond .ne 5, 3) := by decide +kernel
theorem dX7_readLoad_45 : decode cX7_readLoad 45 = .ok (.iconst 0, 1) := by decide +kernel
theorem dX7_readLoad_46 : decode cX7_readLoad 46 = .ok (.ireturn, 1) := by decide +kernel
theorem dX7_readLoad_47 : decode cX7_readLoad 47 = .ok (.aload_n 0, 1) := by decide +kernel
theorem dX7_readLoad_48 : decode cX7_readLoad 48 = .ok (.getfield 75, 3) := by decide +kernel
theorem dX7_readLoad_51 : decode cX7_readLoad 51 = .ok (.istore_n 1, 1) := by decide +kernel
theorem dX7_readLoad_52 : decode cX7_readLoad 52 = .ok (.aload_n 0, 1) := by decide +kernel
theorem dX7_readLoad_53 : decode cX7_readLoad 53 = .ok (.iconst 0, 1) := by decide +kernel
theorem dX7_readLoad_54 : decode cX7_readLoad 54 = .ok (.aload_n 0, 1) := by decide +kernel
theorem dX7_readLoad_55 : decode cX7_readLoad 55 = .ok (.getfield 21, 3) := by decide +kernel
theorem dX7_readLoad_58 : decode cX7_readLoad 58 = .ok (.getfield 78, 3) := by decide +kernel
theorem dX7_readLoad_61 : decode cX7_readLoad 61 = .ok (.iconst 1, 1) := by decide +kernel
theorem dX7_readLoad_62 : decode cX7_readLoad 62 = .ok (.isub, 1) := by decide +kernel
theorem dX7_readLoad_63 : decode cX7_readLoad 63 = .ok (.invokevirtual 71, 3) := by decide +kernel
theorem dX7_readLoad_66 : decode cX7_readLoad 66 = .ok (.ifCond .ne 5, 3) := by decide +kernel
theorem dX7_readLoad_69 : decode cX7_readLoad 69 = .ok (.iconst 0, 1) := by decide +kernel
theorem dX7_readLoad_70 : decode cX7_readLoad 70 = .ok (.ireturn, 1) := by decide +kernel
theorem dX7_readLoad_71 : decode cX7_readLoad 71 = .ok (.aload_n 0, 1) := by decide +kernel
theorem dX7_readLoad_72 : decode cX7_readLoad 72 = .ok (.getfield 75, 3) := by decide +kernel
theorem dX7_readLoad_75 : decode cX7_readLoad 75 = .ok (.istore_n 2, 1) := by decide +kernel
theorem dX7_readLoad_76 : decode cX7_readLoad 76 = .ok (.aload_n 0, 1) := by decide +kernel
theorem dX7_readLoad_77 : decode cX7_readLoad 77 = .ok (.iload_n 2, 1) := by decide +kernel
theorem dX7_readLoad_78 : decode cX7_readLoad 78 = .ok (.aload_n 0, 1) := by decide +kernel
theorem dX7_readLoad_79 : decode cX7_readLoad 79 = .ok (.getfield 21, 3) := by decide +kernel
theorem dX7_readLoad_82 : decode cX7_readLoad 82 = .ok (.getfield 78, 3) := by decide +kernel
theorem dX7_readLoad_85 : decode cX7_readLoad 85 = .ok (.iconst 1, 1) := by decide +kernel
theorem dX7_readLoad_86 : decode cX7_readLoad 86 = .ok (.isub, 1) := by decide +kernel
theorem dX7_readLoad_87 : decode cX7_readLoad 87 = .ok (.invokevirtual 71, 3) := by decide +kernel
theorem dX7_readLoad_90 : decode cX7_readLoad 90 = .ok (.ifCond .ne 5, 3) := by decide +kernel
theorem dX7_readLoad_93 : decode cX7_readLoad 93 = .ok (.iconst 0, 1) := by decide +kernel
theorem dX7_readLoad_94 : decode cX7_readLoad 94 = .ok (.ireturn, 1) := by decide +kernel
theorem dX7_readLoad_95 : decode cX7_readLoad 95 = .ok (.aload_n 0, 1) := by decide +kernel
theorem dX7_readLoad_96 : decode cX7_readLoad 96 = .ok (.getfield 75, 3) := by decide +kernel
theorem dX7_readLoad_99 : decode cX7_readLoad 99 = .ok (.istore_n 3, 1) := by decide +kernel
theorem dX7_readLoad_100 : decode cX7_readLoad 100 = .ok (.aload_n 0, 1) := by decide +kernel
theorem dX7_readLoad_101 : decode cX7_readLoad 101 = .ok (.iconst 1, 1) := by decide +kernel
theorem dX7_readLoad_102 : decode cX7_readLoad 102 = .ok (.bipush 30, 2) := by decide +kernel
theorem dX7_readLoad_104 : decode cX7_readLoad 104 = .ok (.invokevirtual 71, 3) := by decide +kernel
theorem dX7_readLoad_107 : decode cX7_readLoad 107 = .ok (.ifCond .ne 5, 3) := by decide +kernel
theorem dX7_readLoad_110 : decode cX7_readLoad 110 = .ok (.iconst 0, 1) := by decide +kernel
theorem dX7_readLoad_111 : decode cX7_readLoad 111 = .ok (.ireturn, 1) := by decide +kernel
theorem dX7_readLoad_112 : decode cX7_readLoad 112 = .ok (.aload_n 0, 1) := by decide +kernel
theorem dX7_readLoad_113 : decode cX7_readLoad 113 = .ok (.getfield 75, 3) := by decide +kernel
theorem dX7_readLoad_116 : decode cX7_readLoad 116 = .ok (.istore 4, 2) := by decide +kernel
theorem dX7_readLoad_118 : decode cX7_readLoad 118 = .ok (.aload_n 0, 1) := by decide +kernel
theorem dX7_readLoad_119 : decode cX7_readLoad 119 = .ok (.iconst 0, 1) := by decide +kernel
theorem dX7_readLoad_120 : decode cX7_readLoad 120 = .ok (.ldc 156, 2) := by decide +kernel
theorem dX7_readLoad_122 : decode cX7_readLoad 122 = .ok (.invokevirtual 71, 3) := by decide +kernel
theorem dX7_readLoad_125 : decode cX7_readLoad 125 = .ok (.ifCond .ne 5, 3) := by decide +kernel
theorem dX7_readLoad_128 : decode cX7_readLoad 128 = .ok (.iconst 0, 1) := by decide +kernel
theorem dX7_readLoad_129 : decode cX7_readLoad 129 = .ok (.ireturn, 1) := by decide +kernel
theorem dX7_readLoad_130 : decode cX7_readLoad 130 = .ok (.aload_n 0, 1) := by decide +kernel
theorem dX7_readLoad_131 : decode cX7_readLoad 131 = .ok (.getfield 75, 3) := by decide +kernel
theorem dX7_readLoad_134 : decode cX7_readLoad 134 = .ok (.istore 5, 2) := by decide +kernel
theorem dX7_readLoad_136 : decode cX7_readLoad 136 = .ok (.aload_n 0, 1) := by decide +kernel
theorem dX7_readLoad_137 : decode cX7_readLoad 137 = .ok (.invokevirtual 157, 3) := by decide +kernel
theorem dX7_readLoad_140 : decode cX7_readLoad 140 = .ok (.ifCond .ne 5, 3) := by decide +kernel
theorem dX7_readLoad_143 : decode cX7_readLoad 143 = .ok (.iconst 0, 1) := by decide +kernel
theorem dX7_readLoad_144 : decode cX7_readLoad 144 = .ok (.ireturn, 1) := by decide +kernel
theorem dX7_readLoad_145 : decode cX7_readLoad 145 = .ok (.aload_n 0, 1) := by decide +kernel
theorem dX7_readLoad_146 : decode cX7_readLoad 146 = .ok (.getfield 21, 3) := by decide +kernel
theorem dX7_readLoad_149 : decode cX7_readLoad 149 = .ok (.getfield 149, 3) := by decide +kernel
theorem dX7_readLoad_152 : decode cX7_readLoad 152 = .ok (.iload_n 1, 1) := by decide +kernel
theorem dX7_readLoad_153 : decode cX7_readLoad 153 = .ok (.iload_n 2, 1) := by decide +kernel
theorem dX7_readLoad_154 : decode cX7_readLoad 154 = .ok (.iload_n 3, 1) := by decide +kernel
theorem dX7_readLoad_155 : decode cX7_readLoad 155 = .ok (.iload 4, 2) := by decide +kernel
theorem dX7_readLoad_157 : decode cX7_readLoad 157 = .ok (.iload 5, 2) := by decide +kernel
theorem dX7_readLoad_159 : decode cX7_readLoad 159 = .ok (.aload_n 0, 1) := by decide +kernel
theorem dX7_readLoad_160 : decode cX7_readLoad 160 = .ok (.getfield 75, 3) := by decide +kernel
theorem dX7_readLoad_163 : decode cX7_readLoad 163 = .ok (.invokevirtual 160, 3) := by decide +kernel
theorem dX7_readLoad_166 : decode cX7_readLoad 166 = .ok (.pop, 1) := by decide +kernel
theorem dX7_readLoad_167 : decode cX7_readLoad 167 = .ok (.aload_n 0, 1) := by decide +kernel
theorem dX7_readLoad_168 : decode cX7_readLoad 168 = .ok (.invokevirtual 84, 3) := by decide +kernel
theorem dX7_readLoad_171 : decode cX7_readLoad 171 = .ok (.ireturn, 1) := by decide +kernel
theorem dX7_readGrowth_0 : decode cX7_readGrowth 0 = .ok (.aload_n 0, 1) := by decide +kernel
theorem dX7_readGrowth_1 : decode cX7_readGrowth 1 = .ok (.getfield 12, 3) := by decide +kernel
theorem dX7_readGrowth_4 : decode cX7_readGrowth 4 = .ok (.ldc 164, 2) := by decide +kernel
theorem dX7_readGrowth_6 : decode cX7_readGrowth 6 = .ok (.invokevirtual 60, 3) := by decide +kernel
theorem dX7_readGrowth_9 : decode cX7_readGrowth 9 = .ok (.ifCond .eq 18, 3) := by decide +kernel
theorem dX7_readGrowth_12 : decode cX7_readGrowth 12 = .ok (.aload_n 0, 1) := by decide +kernel
theorem dX7_readGrowth_13 : decode cX7_readGrowth 13 = .ok (.getfield 12, 3) := by decide +kernel
theorem dX7_readGrowth_16 : decode cX7_readGrowth 16 = .ok (.invokevirtual 68, 3) := by decide +kernel
theorem dX7_readGrowth_19 : decode cX7_readGrowth 19 = .ok (.aload_n 0, 1) := by decide +kernel
theorem dX7_readGrowth_20 : decode cX7_readGrowth 20 = .ok (.iconst 0, 1) := by decide +kernel
theorem dX7_readGrowth_21 : decode cX7_readGrowth 21 = .ok (.bipush 20, 2) := by decide +kernel
theorem dX7_readGrowth_23 : decode cX7_readGrowth 23 = .ok (.invokevirtual 71, 3) := by decide +kernel
theorem dX7_readGrowth_26 : decode cX7_readGrowth 26 = .ok (.ireturn, 1) := by decide +kernel
theorem dX7_readGrowth_27 : decode cX7_readGrowth 27 = .ok (.aload_n 0, 1) := by decide +kernel
theorem dX7_readGrowth_28 : decode cX7_readGrowth 28 = .ok (.iconst 0, 1) := by decide +kernel
theorem dX7_readGrowth_29 : decode cX7_readGrowth 29 = .ok (.putfield 75, 3) := by decide +kernel
theorem dX7_readGrowth_32 : decode cX7_readGrowth 32 = .ok (.iconst 1, 1) := by decide +kernel
theorem dX7_readGrowth_33 : decode cX7_readGrowth 33 = .ok (.ireturn, 1) := by decide +kernel
theorem dX7_readRut_0 : decode cX7_readRut 0 = .ok (.aload_n 0, 1) := by decide +kernel
theorem dX7_readRut_1 : decode cX7_readRut 1 = .ok (.getfield 12, 3) := by decide +kernel
theorem dX7_readRut_4 : decode cX7_readRut 4 = .ok (.invokevirtual 68, 3) := by decide +kernel
theorem dX7_readRut_7 : decode cX7_readRut 7 = .ok (.aload_n 0, 1) := by decide +kernel
theorem dX7_readRut_8 : decode cX7_readRut 8 = .ok (.invokevirtual 123, 3) := by decide +kernel
theorem dX7_readRut_11 : decode cX7_readRut 11 = .ok (.ifCond .eq 14, 3) := by decide +kernel
theorem dX7_readRut_14 : decode cX7_readRut 14 = .ok (.aload_n 0, 1) := by decide +kernel
theorem dX7_readRut_15 : decode cX7_readRut 15 = .ok (.iconst 0, 1) := by decide +kernel
theorem dX7_readRut_16 : decode cX7_readRut 16 = .ok (.sipush 9999, 3) := by decide +kernel
theorem dX7_readRut_19 : decode cX7_readRut 19 = .ok (.invokevirtual 71, 3) := by decide +kernel
theorem dX7_readRut_22 : decode cX7_readRut 22 = .ok (.ifCond .ne 5, 3) := by decide +kernel
theorem dX7_readRut_25 : decode cX7_readRut 25 = .ok (.iconst 0, 1) := by decide +kernel
theorem dX7_readRut_26 : decode cX7_readRut 26 = .ok (.ireturn, 1) := by decide +kernel
theorem dX7_readRut_27 : decode cX7_readRut 27 = .ok (.aload_n 0, 1) := by decide +kernel
theorem dX7_readRut_28 : decode cX7_readRut 28 = .ok (.getfield 21, 3) := by decide +kernel
theorem dX7_readRut_31 : decode cX7_readRut 31 = .ok (.getfield 166, 3) := by decide +kernel
theorem dX7_readRut_34 : decode cX7_readRut 34 = .ok (.aload_n 0, 1) := by decide +kernel
theorem dX7_readRut_35 : decode cX7_readRut 35 = .ok (.getfield 126, 3) := by decide +kernel
theorem dX7_readRut_38 : decode cX7_readRut 38 = .ok (.aload_n 0, 1) := by decide +kernel
theorem dX7_readRut_39 : decode cX7_readRut 39 = .ok (.getfield 75, 3) := by decide +kernel
theorem dX7_readRut_42 : decode cX7_readRut 42 = .ok (.iastore, 1) := by decide +kernel
theorem dX7_readRut_43 : decode cX7_readRut 43 = .ok (.aload_n 0, 1) := by decide +kernel
theorem dX7_readRut_44 : decode cX7_readRut 44 = .ok (.invokevirtual 84, 3) := by decide +kernel
theorem dX7_readRut_47 : decode cX7_readRut 47 = .ok (.ireturn, 1) := by decide +kernel
theorem dX7_readAmount_0 : decode cX7_readAmount 0 = .ok (.iconst 1, 1) := by decide +kernel
theorem dX7_readAmount_1 : decode cX7_readAmount 1 = .ok (.iload_n 1, 1) := by decide +kernel
theorem dX7_readAmount_2 : decode cX7_readAmount 2 = .ok (.ishl, 1) := by decide +kernel
theorem dX7_readAmount_3 : decode cX7_readAmount 3 = .ok (.istore_n 2, 1) := by decide +kernel
theorem dX7_readAmount_4 : decode cX7_readAmount 4 = .ok (.aload_n 0, 1) := by decide +kernel
theorem dX7_readAmount_5 : decode cX7_readAmount 5 = .ok (.getfield 39, 3) := by decide +kernel
theorem dX7_readAmount_8 : decode cX7_readAmount 8 = .ok (.iload_n 2, 1) := by decide +kernel
theorem dX7_readAmount_9 : decode cX7_readAmount 9 = .ok (.iand, 1) := by decide +kernel
theorem dX7_readAmount_10 : decode cX7_readAmount 10 = .ok (.ifCond .eq 9, 3) := by decide +kernel
theorem dX7_readAmount_13 : decode cX7_readAmount 13 = .ok (.aload_n 0, 1) := by decide +kernel
theorem dX7_readAmount_14 : decode cX7_readAmount 14 = .ok (.iconst 3, 1) := by decide +kernel
theorem dX7_readAmount_15 : decode cX7_readAmount 15 = .ok (.invokevirtual 64, 3) := by decide +kernel
theorem dX7_readAmount_18 : decode cX7_readAmount 18 = .ok (.ireturn, 1) := by decide +kernel
theorem dX7_readAmount_19 : decode cX7_readAmount 19 = .ok (.aload_n 0, 1) := by decide +kernel
theorem dX7_readAmount_20 : decode cX7_readAmount 20 = .ok (.dup, 1) := by decide +kernel
theorem dX7_readAmount_21 : decode cX7_readAmount 21 = .ok (.getfield 39, 3) := by decide +kernel
theorem dX7_readAmount_24 : decode cX7_readAmount 24 = .ok (.iload_n 2, 1) := by decide +kernel
theorem dX7_readAmount_25 : decode cX7_readAmount 25 = .ok (.ior, 1) := by decide +kernel
theorem dX7_readAmount_26 : decode cX7_readAmount 26 = .ok (.putfield 39, 3) := by decide +kernel
theorem dX7_readAmount_29 : decode cX7_readAmount 29 = .ok (.aload_n 0, 1) := by decide +kernel
theorem dX7_readAmount_30 : decode cX7_readAmount 30 = .ok (.getfield 12, 3) := by decide +kernel
theorem dX7_readAmount_33 : decode cX7_readAmount 33 = .ok (.invokevirtual 68, 3) := by decide +kernel
theorem dX7_readAmount_36 : decode cX7_readAmount 36 = .ok (.aload_n 0, 1) := by decide +kernel
theorem dX7_readAmount_37 : decode cX7_readAmount 37 = .ok (.getstatic 169, 3) := by decide +kernel
theorem dX7_readAmount_40 : decode cX7_readAmount 40 = .ok (.iload_n 1, 1) := by decide +kernel
theorem dX7_readAmount_41 : decode cX7_readAmount 41 = .ok (.iaload, 1) := by decide +kernel
theorem dX7_readAmount_42 : decode cX7_readAmount 42 = .ok (.getstatic 172, 3) := by decide +kernel
theorem dX7_readAmount_45 : decode cX7_readAmount 45 = .ok (.iload_n 1, 1) := by decide +kernel
theorem dX7_readAmount_46 : decode cX7_readAmount 46 = .ok (.iaload, 1) := by decide +kernel
theorem dX7_readAmount_47 : decode cX7_readAmount 47 = .ok (.invokevirtual 71, 3) := by decide +kernel
theorem dX7_readAmount_50 : decode cX7_readAmount 50 = .ok (.ifCond .ne 5, 3) := by decide +kernel
theorem dX7_readAmount_53 : decode cX7_readAmount 53 = .ok (.iconst 0, 1) := by decide +kernel
theorem dX7_readAmount_54 : decode cX7_readAmount 54 = .ok (.ireturn, 1) := by decide +kernel
theorem dX7_readAmount_55 : decode cX7_readAmount 55 = .ok (.aload_n 0, 1) := by decide +kernel
theorem dX7_readAmount_56 : decode cX7_readAmount 56 = .ok (.getfield 21, 3) := by decide +kernel
theorem dX7_readAmount_59 : decode cX7_readAmount 59 = .ok (.getfield 175, 3) := by decide +kernel
theorem dX7_readAmount_62 : decode cX7_readAmount 62 = .ok (.iload_n 1, 1) := by decide +kernel
theorem dX7_readAmount_63 : decode cX7_readAmount 63 = .ok (.aload_n 0, 1) := by decide +kernel
theorem dX7_readAmount_64 : decode cX7_readAmount 64 = .ok (.getfield 75, 3) := by decide +kernel
theorem dX7_readAmount_67 : decode cX7_readAmount 67 = .ok (.iastore, 1) := by decide +kernel
theorem dX7_readAmount_68 : decode cX7_readAmount 68 = .ok (.aload_n 0, 1) := by decide +kernel
theorem dX7_readAmount_69 : decode cX7_readAmount 69 = .ok (.invokevirtual 84, 3) := by decide +kernel
theorem dX7_readAmount_72 : decode cX7_readAmount 72 = .ok (.ireturn, 1) := by decide +kernel
theorem dX7_readLayers_0 : decode cX7_readLayers 0 = .ok (.iconst 0, 1) := by decide +kernel
theorem dX7_readLayers_1 : decode cX7_readLayers 1 = .ok (.istore_n 2, 1) := by decide +kernel
theorem dX7_readLayers_2 : decode cX7_readLayers 2 = .ok (.iload_n 2, 1) := by decide +kernel
theorem dX7_readLayers_3 : decode cX7_readLayers 3 = .ok (.iconst 4, 1) := by decide +kernel
theorem dX7_readLayers_4 : decode cX7_readLayers 4 = .ok (.if_icmp .ge 73, 3) := by decide +kernel
theorem dX7_readLayers_7 : decode cX7_readLayers 7 = .ok (.aload_n 0, 1) := by decide +kernel
theorem dX7_readLayers_8 : decode cX7_readLayers 8 = .ok (.invokevirtual 178, 3) := by decide +kernel
theorem dX7_readLayers_11 : decode cX7_readLayers 11 = .ok (.istore_n 3, 1) := by decide +kernel
theorem dX7_readLayers_12 : decode cX7_readLayers 12 = .ok (.iload_n 3, 1) := by decide +kernel
theorem dX7_readLayers_13 : decode cX7_readLayers 13 = .ok (.iconst (-1), 1) := by decide +kernel
theorem dX7_readLayers_14 : decode cX7_readLayers 14 = .ok (.if_icmp .ne 21, 3) := by decide +kernel
theorem dX7_readLayers_17 : decode cX7_readLayers 17 = .ok (.iload_n 2, 1) := by decide +kernel
theorem dX7_readLayers_18 : decode cX7_readLayers 18 = .ok (.ifCond .gt 11, 3) := by decide +kernel
theorem dX7_readLayers_21 : decode cX7_readLayers 21 = .ok (.aload_n 0, 1) := by decide +kernel
theorem dX7_readLayers_22 : decode cX7_readLayers 22 = .ok (.iconst 1, 1) := by decide +kernel
theorem dX7_readLayers_23 : decode cX7_readLayers 23 = .ok (.invokevirtual 64, 3) := by decide +kernel
theorem dX7_readLayers_26 : decode cX7_readLayers 26 = .ok (.ifCond .eq 7, 3) := by decide +kernel
theorem dX7_readLayers_29 : decode cX7_readLayers 29 = .ok (.iconst 1, 1) := by decide +kernel
theorem dX7_readLayers_30 : decode cX7_readLayers 30 = .ok (.goto 4, 3) := by decide +kernel
theorem dX7_readLayers_33 : decode cX7_readLayers 33 = .ok (.iconst 0, 1) := by decide +kernel
theorem dX7_readLayers_34 : decode cX7_readLayers 34 = .ok (.ireturn, 1) := by decide +kernel
theorem dX7_readLayers_35 : decode cX7_readLayers 35 = .ok (.aload_n 0, 1) := by decide +kernel
theorem dX7_readLayers_36 : decode cX7_readLayers 36 = .ok (.getfield 12, 3) := by decide +kernel
theorem dX7_readLayers_39 : decode cX7_readLayers 39 = .ok (.invokevirtual 68, 3) := by decide +kernel
theorem dX7_readLayers_42 : decode cX7_readLayers 42 = .ok (.aload_n 0, 1) := by decide +kernel
theorem dX7_readLayers_43 : decode cX7_readLayers 43 = .ok (.iconst 1, 1) := by decide +kernel
theorem dX7_readLayers_44 : decode cX7_readLayers 44 = .ok (.sipush 500, 3) := by decide +kernel
theorem dX7_readLayers_47 : decode cX7_readLayers 47 = .ok (.invokevirtual 71, 3) := by decide +kernel
theorem dX7_readLayers_50 : decode cX7_readLayers 50 = .ok (.ifCond .ne 5, 3) := by decide +kernel
theorem dX7_readLayers_53 : decode cX7_readLayers 53 = .ok (.iconst 0, 1) := by decide +kernel
theorem dX7_readLayers_54 : decode cX7_readLayers 54 = .ok (.ireturn, 1) := by decide +kernel
theorem dX7_readLayers_55 : decode cX7_readLayers 55 = .ok (.aload_n 0, 1) := by decide +kernel
theorem dX7_readLayers_56 : decode cX7_readLayers 56 = .ok (.getfield 21, 3) := by decide +kernel
theorem dX7_readLayers_59 : decode cX7_readLayers 59 = .ok (.getfield 114, 3) := by decide +kernel
theorem dX7_readLayers_62 : decode cX7_readLayers 62 = .ok (.iload_n 1, 1) := by decide +kernel
theorem dX7_readLayers_63 : decode cX7_readLayers 63 = .ok (.iload_n 3, 1) := by decide +kernel
theorem dX7_readLayers_64 : decode cX7_readLayers 64 = .ok (.aload_n 0, 1) := by decide +kernel
theorem dX7_readLayers_65 : decode cX7_readLayers 65 = .ok (.getfield 75, 3) := by decide +kernel
theorem dX7_readLayers_68 : decode cX7_readLayers 68 = .ok (.invokevirtual 181, 3) := by decide +kernel
theorem dX7_readLayers_71 : decode cX7_readLayers 71 = .ok (.iinc 2 1, 3) := by decide +kernel
theorem dX7_readLayers_74 : decode cX7_readLayers 74 = .ok (.goto (-72), 3) := by decide +kernel
theorem dX7_readLayers_77 : decode cX7_readLayers 77 = .ok (.iconst 1, 1) := by decide +kernel
theorem dX7_readLayers_78 : decode cX7_readLayers 78 = .ok (.ireturn, 1) := by decide +kernel
theorem dX7_readPlace_0 : decode cX7_readPlace 0 = .ok (.aload_n 0, 1) := by decide +kernel
theorem dX7_readPlace_1 : decode cX7_readPlace 1 = .ok (.iconst 0, 1) := by decide +kernel
theorem dX7_readPlace_2 : decode cX7_readPlace 2 = .ok (.aload_n 0, 1) := by decide +kernel
theorem dX7_readPlace_3 : decode cX7_readPlace 3 = .ok (.getfield 21, 3) := by decide +kernel
theorem dX7_readPlace_6 : decode cX7_readPlace 6 = .ok (.getfield 78, 3) := by decide +kernel
theorem dX7_readPlace_9 : decode cX7_readPlace 9 = .ok (.iconst 1, 1) := by decide +kernel
theorem dX7_readPlace_10 : decode cX7_readPlace 10 = .ok (.isub, 1) := by decide +kernel
theorem dX7_readPlace_11 : decode cX7_readPlace 11 = .ok (.invokevirtual 71, 3) := by decide +kernel
theorem dX7_readPlace_14 : decode cX7_readPlace 14 = .ok (.ifCond .ne 5, 3) := by decide +kernel
theorem dX7_readPlace_17 : decode cX7_readPlace 17 = .ok (.iconst 0, 1) := by decide +kernel
theorem dX7_readPlace_18 : decode cX7_readPlace 18 = .ok (.ireturn, 1) := by decide +kernel
theorem dX7_readPlace_19 : decode cX7_readPlace 19 = .ok (.aload_n 0, 1) := by decide +kernel
theorem dX7_readPlace_20 : decode cX7_readPlace 20 = .ok (.getfield 75, 3) := by decide +kernel
theorem dX7_readPlace_23 : decode cX7_readPlace 23 = .ok (.istore_n 1, 1) := by decide +kernel
theorem dX7_readPlace_24 : decode cX7_readPlace 24 = .ok (.aload_n 0, 1) := by decide +kernel
theorem dX7_readPlace_25 : decode cX7_readPlace 25 = .ok (.iconst 0, 1) := by decide +kernel
theorem dX7_readPlace_26 : decode cX7_readPlace 26 = .ok (.aload_n 0, 1) := by decide +kernel
theorem dX7_readPlace_27 : decode cX7_readPlace 27 = .ok (.getfield 21, 3) := by decide +kernel
theorem dX7_readPlace_30 : decode cX7_readPlace 30 = .ok (.getfield 81, 3) := by decide +kernel
theorem dX7_readPlace_33 : decode cX7_readPlace 33 = .ok (.iconst 1, 1) := by decide +kernel
theorem dX7_readPlace_34 : decode cX7_readPlace 34 = .ok (.isub, 1) := by decide +kernel
theorem dX7_readPlace_35 : decode cX7_readPlace 35 = .ok (.invokevirtual 71, 3) := by decide +kernel
theorem dX7_readPlace_38 : decode cX7_readPlace 38 = .ok (.ifCond .ne 5, 3) := by decide +kernel
theorem dX7_readPlace_41 : decode cX7_readPlace 41 = .ok (.iconst 0, 1) := by decide +kernel
theorem dX7_readPlace_42 : decode cX7_readPlace 42 = .ok (.ireturn, 1) := by decide +kernel
theorem dX7_readPlace_43 : decode cX7_readPlace 43 = .ok (.aload_n 0, 1) := by decide +kernel
theorem dX7_readPlace_44 : decode cX7_readPlace 44 = .ok (.aload_n 0, 1) := by decide +kernel
theorem dX7_readPlace_45 : decode cX7_readPlace 45 = .ok (.getfield 21, 3) := by decide +kernel
theorem dX7_readPlace_48 : decode cX7_readPlace 48 = .ok (.iload_n 1, 1) := by decide +kernel
theorem dX7_readPlace_49 : decode cX7_readPlace 49 = .ok (.aload_n 0, 1) := by decide +kernel
theorem dX7_readPlace_50 : decode cX7_readPlace 50 = .ok (.getfield 75, 3) := by decide +kernel
theorem dX7_readPlace_53 : decode cX7_readPlace 53 = .ok (.invokevirtual 185, 3) := by decide +kernel
theorem dX7_readPlace_56 : decode cX7_readPlace 56 = .ok (.putfield 126, 3) := by decide +kernel
theorem dX7_readPlace_59 : decode cX7_readPlace 59 = .ok (.iconst 1, 1) := by decide +kernel
theorem dX7_readPlace_60 : decode cX7_readPlace 60 = .ok (.ireturn, 1) := by decide +kernel
theorem dX7_readNumber_0 : decode cX7_readNumber 0 = .ok (.aload_n 0, 1) := by decide +kernel
theorem dX7_readNumber_1 : decode cX7_readNumber 1 = .ok (.getfield 12, 3) := by decide +kernel
theorem dX7_readNumber_4 : decode cX7_readNumber 4 = .ok (.getfield 49, 3) := by decide +kernel
theorem dX7_readNumber_7 : decode cX7_readNumber 7 = .ok (.iconst 2, 1) := by decide +kernel
theorem dX7_readNumber_8 : decode cX7_readNumber 8 = .ok (.if_icmp .eq 9, 3) := by decide +kernel
theorem dX7_readNumber_11 : decode cX7_readNumber 11 = .ok (.aload_n 0, 1) := by decide +kernel
theorem dX7_readNumber_12 : decode cX7_readNumber 12 = .ok (.iconst 1, 1) := by decide +kernel
theorem dX7_readNumber_13 : decode cX7_readNumber 13 = .ok (.invokevirtual 64, 3) := by decide +kernel
theorem dX7_readNumber_16 : decode cX7_readNumber 16 = .ok (.ireturn, 1) := by decide +kernel
theorem dX7_readNumber_17 : decode cX7_readNumber 17 = .ok (.aload_n 0, 1) := by decide +kernel
theorem dX7_readNumber_18 : decode cX7_readNumber 18 = .ok (.getfield 12, 3) := by decide +kernel
theorem dX7_readNumber_21 : decode cX7_readNumber 21 = .ok (.getfield 189, 3) := by decide +kernel
theorem dX7_readNumber_24 : decode cX7_readNumber 24 = .ok (.iload_n 1, 1) := by decide +kernel
theorem dX7_readNumber_25 : decode cX7_readNumber 25 = .ok (.if_icmp .lt 14, 3) := by decide +kernel
theorem dX7_readNumber_28 : decode cX7_readNumber 28 = .ok (.aload_n 0, 1) := by decide +kernel
theorem dX7_readNumber_29 : decode cX7_readNumber 29 = .ok (.getfield 12, 3) := by decide +kernel
theorem dX7_readNumber_32 : decode cX7_readNumber 32 = .ok (.getfield 189, 3) := by decide +kernel
theorem dX7_readNumber_35 : decode cX7_readNumber 35 = .ok (.iload_n 2, 1) := by decide +kernel
theorem dX7_readNumber_36 : decode cX7_readNumber 36 = .ok (.if_icmp .le 9, 3) := by decide +kernel
theorem dX7_readNumber_39 : decode cX7_readNumber 39 = .ok (.aload_n 0, 1) := by decide +kernel
theorem dX7_readNumber_40 : decode cX7_readNumber 40 = .ok (.iconst 2, 1) := by decide +kernel
theorem dX7_readNumber_41 : decode cX7_readNumber 41 = .ok (.invokevirtual 64, 3) := by decide +kernel
theorem dX7_readNumber_44 : decode cX7_readNumber 44 = .ok (.ireturn, 1) := by decide +kernel
theorem dX7_readNumber_45 : decode cX7_readNumber 45 = .ok (.aload_n 0, 1) := by decide +kernel
theorem dX7_readNumber_46 : decode cX7_readNumber 46 = .ok (.aload_n 0, 1) := by decide +kernel
theorem dX7_readNumber_47 : decode cX7_readNumber 47 = .ok (.getfield 12, 3) := by decide +kernel
theorem dX7_readNumber_50 : decode cX7_readNumber 50 = .ok (.getfield 189, 3) := by decide +kernel
theorem dX7_readNumber_53 : decode cX7_readNumber 53 = .ok (.putfield 75, 3) := by decide +kernel
theorem dX7_readNumber_56 : decode cX7_readNumber 56 = .ok (.aload_n 0, 1) := by decide +kernel
theorem dX7_readNumber_57 : decode cX7_readNumber 57 = .ok (.aload_n 0, 1) := by decide +kernel
theorem dX7_readNumber_58 : decode cX7_readNumber 58 = .ok (.getfield 12, 3) := by decide +kernel
theorem dX7_readNumber_61 : decode cX7_readNumber 61 = .ok (.getfield 55, 3) := by decide +kernel
theorem dX7_readNumber_64 : decode cX7_readNumber 64 = .ok (.putfield 133, 3) := by decide +kernel
theorem dX7_readNumber_67 : decode cX7_readNumber 67 = .ok (.aload_n 0, 1) := by decide +kernel
theorem dX7_readNumber_68 : decode cX7_readNumber 68 = .ok (.getfield 12, 3) := by decide +kernel
theorem dX7_readNumber_71 : decode cX7_readNumber 71 = .ok (.invokevirtual 68, 3) := by decide +kernel
theorem dX7_readNumber_74 : decode cX7_readNumber 74 = .ok (.iconst 1, 1) := by decide +kernel
theorem dX7_readNumber_75 : decode cX7_readNumber 75 = .ok (.ireturn, 1) := by decide +kernel
theorem dX7_readSemicolon_0 : decode cX7_readSemicolon 0 = .ok (.aload_n 0, 1) := by decide +kernel
theorem dX7_readSemicolon_1 : decode cX7_readSemicolon 1 = .ok (.getfield 12, 3) := by decide +kernel
theorem dX7_readSemicolon_4 : decode cX7_readSemicolon 4 = .ok (.getfield 49, 3) := by decide +kernel
theorem dX7_readSemicolon_7 : decode cX7_readSemicolon 7 = .ok (.iconst 3, 1) := by decide +kernel
theorem dX7_readSemicolon_8 : decode cX7_readSemicolon 8 = .ok (.if_icmp .eq 9, 3) := by decide +kernel
theorem dX7_readSemicolon_11 : decode cX7_readSemicolon 11 = .ok (.aload_n 0, 1) := by decide +kernel
theorem dX7_readSemicolon_12 : decode cX7_readSemicolon 12 = .ok (.iconst 1, 1) := by decide +kernel
theorem dX7_readSemicolon_13 : decode cX7_readSemicolon 13 = .ok (.invokevirtual 64, 3) := by decide +kernel
theorem dX7_readSemicolon_16 : decode cX7_readSemicolon 16 = .ok (.ireturn, 1) := by decide +kernel
theorem dX7_readSemicolon_17 : decode cX7_readSemicolon 17 = .ok (.aload_n 0, 1) := by decide +kernel
theorem dX7_readSemicolon_18 : decode cX7_readSemicolon 18 = .ok (.getfield 12, 3) := by decide +kernel
theorem dX7_readSemicolon_21 : decode cX7_readSemicolon 21 = .ok (.invokevirtual 68, 3) := by decide +kernel
theorem dX7_readSemicolon_24 : decode cX7_readSemicolon 24 = .ok (.iconst 1, 1) := by decide +kernel
theorem dX7_readSemicolon_25 : decode cX7_readSemicolon 25 = .ok (.ireturn, 1) := by decide +kernel
theorem dX7_kindOfWord_0 : decode cX7_kindOfWord 0 = .ok (.aload_n 0, 1) := by decide +kernel
theorem dX7_kindOfWord_1 : decode cX7_kindOfWord 1 = .ok (.getfield 12, 3) := by decide +kernel
theorem dX7_kindOfWord_4 : decode cX7_kindOfWord 4 = .ok (.ldc 192, 2) := by decide +kernel
theorem dX7_kindOfWord_6 : decode cX7_kindOfWord 6 = .ok (.invokevirtual 60, 3) := by decide +kernel
theorem dX7_kindOfWord_9 : decode cX7_kindOfWord 9 = .ok (.ifCond .eq 5, 3) := by decide +kernel
theorem dX7_kindOfWord_12 : decode cX7_kindOfWord 12 = .ok (.iconst 0, 1) := by decide +kernel
theorem dX7_kindOfWord_13 : decode cX7_kindOfWord 13 = .ok (.ireturn, 1) := by decide +kernel
theorem dX7_kindOfWord_14 : decode cX7_kindOfWord 14 = .ok (.aload_n 0, 1) := by decide +kernel
theorem dX7_kindOfWord_15 : decode cX7_kindOfWord 15 = .ok (.getfield 12, 3) := by decide +kernel
theorem dX7_kindOfWord_18 : decode cX7_kindOfWord 18 = .ok (.ldc 194, 2) := by decide +kernel
theorem dX7_kindOfWord_20 : decode cX7_kindOfWord 20 = .ok (.invokevirtual 60, 3) := by decide +kernel
theorem dX7_kindOfWord_23 : decode cX7_kindOfWord 23 = .ok (.ifCond .eq 5, 3) := by decide +kernel
theorem dX7_kindOfWord_26 : decode cX7_kindOfWord 26 = .ok (.iconst 1, 1) := by decide +kernel
theorem dX7_kindOfWord_27 : decode cX7_kindOfWord 27 = .ok (.ireturn, 1) := by decide +kernel
theorem dX7_kindOfWord_28 : decode cX7_kindOfWord 28 = .ok (.aload_n 0, 1) := by decide +kernel
theorem dX7_kindOfWord_29 : decode cX7_kindOfWord 29 = .ok (.getfield 12, 3) := by decide +kernel
theorem dX7_kindOfWord_32 : decode cX7_kindOfWord 32 = .ok (.ldc 196, 2) := by decide +kernel
theorem dX7_kindOfWord_34 : decode cX7_kindOfWord 34 = .ok (.invokevirtual 60, 3) := by decide +kernel
theorem dX7_kindOfWord_37 : decode cX7_kindOfWord 37 = .ok (.ifCond .eq 5, 3) := by decide +kernel
theorem dX7_kindOfWord_40 : decode cX7_kindOfWord 40 = .ok (.iconst 2, 1) := by decide +kernel
theorem dX7_kindOfWord_41 : decode cX7_kindOfWord 41 = .ok (.ireturn, 1) := by decide +kernel
theorem dX7_kindOfWord_42 : decode cX7_kindOfWord 42 = .ok (.aload_n 0, 1) := by decide +kernel
theorem dX7_kindOfWord_43 : decode cX7_kindOfWord 43 = .ok (.getfield 12, 3) := by decide +kernel
theorem dX7_kindOfWord_46 : decode cX7_kindOfWord 46 = .ok (.ldc 198, 2) := by decide +kernel
theorem dX7_kindOfWord_48 : decode cX7_kindOfWord 48 = .ok (.invokevirtual 60, 3) := by decide +kernel
theorem dX7_kindOfWord_51 : decode cX7_kindOfWord 51 = .ok (.ifCond .eq 7, 3) := by decide +kernel
theorem dX7_kindOfWord_54 : decode cX7_kindOfWord 54 = .ok (.iconst 3, 1) := by decide +kernel
theorem dX7_kindOfWord_55 : decode cX7_kindOfWord 55 = .ok (.goto 4, 3) := by decide +kernel
theorem dX7_kindOfWord_58 : decode cX7_kindOfWord 58 = .ok (.iconst (-1), 1) := by decide +kernel
theorem dX7_kindOfWord_59 : decode cX7_kindOfWord 59 = .ok (.ireturn, 1) := by decide +kernel
theorem dX7_amountOfWord_0 : decode cX7_amountOfWord 0 = .ok (.aload_n 0, 1) := by decide +kernel
theorem dX7_amountOfWord_1 : decode cX7_amountOfWord 1 = .ok (.getfield 12, 3) := by decide +kernel
theorem dX7_amountOfWord_4 : decode cX7_amountOfWord 4 = .ok (.ldc 200, 2) := by decide +kernel
theorem dX7_amountOfWord_6 : decode cX7_amountOfWord 6 = .ok (.invokevirtual 60, 3) := by decide +kernel
theorem dX7_amountOfWord_9 : decode cX7_amountOfWord 9 = .ok (.ifCond .eq 5, 3) := by decide +kernel
theorem dX7_amountOfWord_12 : decode cX7_amountOfWord 12 = .ok (.iconst 0, 1) := by decide +kernel
theorem dX7_amountOfWord_13 : decode cX7_amountOfWord 13 = .ok (.ireturn, 1) := by decide +kernel
theorem dX7_amountOfWord_14 : decode cX7_amountOfWord 14 = .ok (.aload_n 0, 1) := by decide +kernel
theorem dX7_amountOfWord_15 : decode cX7_amountOfWord 15 = .ok (.getfield 12, 3) := by decide +kernel
theorem dX7_amountOfWord_18 : decode cX7_amountOfWord 18 = .ok (.ldc 202, 2) := by decide +kernel
theorem dX7_amountOfWord_20 : decode cX7_amountOfWord 20 = .ok (.invokevirtual 60, 3) := by decide +kernel
theorem dX7_amountOfWord_23 : decode cX7_amountOfWord 23 = .ok (.ifCond .eq 5, 3) := by decide +kernel
theorem dX7_amountOfWord_26 : decode cX7_amountOfWord 26 = .ok (.iconst 1, 1) := by decide +kernel
theorem dX7_amountOfWord_27 : decode cX7_amountOfWord 27 = .ok (.ireturn, 1) := by decide +kernel
theorem dX7_amountOfWord_28 : decode cX7_amountOfWord 28 = .ok (.aload_n 0, 1) := by decide +kernel
theorem dX7_amountOfWord_29 : decode cX7_amountOfWord 29 = .ok (.getfield 12, 3) := by decide +kernel
theorem dX7_amountOfWord_32 : decode cX7_amountOfWord 32 = .ok (.ldc 204, 2) := by decide +kernel
theorem dX7_amountOfWord_34 : decode cX7_amountOfWord 34 = .ok (.invokevirtual 60, 3) := by decide +kernel
theorem dX7_amountOfWord_37 : decode cX7_amountOfWord 37 = .ok (.ifCond .eq 5, 3) := by decide +kernel
theorem dX7_amountOfWord_40 : decode cX7_amountOfWord 40 = .ok (.iconst 2, 1) := by decide +kernel
theorem dX7_amountOfWord_41 : decode cX7_amountOfWord 41 = .ok (.ireturn, 1) := by decide +kernel
theorem dX7_amountOfWord_42 : decode cX7_amountOfWord 42 = .ok (.aload_n 0, 1) := by decide +kernel
theorem dX7_amountOfWord_43 : decode cX7_amountOfWord 43 = .ok (.getfield 12, 3) := by decide +kernel
theorem dX7_amountOfWord_46 : decode cX7_amountOfWord 46 = .ok (.ldc 206, 2) := by decide +kernel
theorem dX7_amountOfWord_48 : decode cX7_amountOfWord 48 = .ok (.invokevirtual 60, 3) := by decide +kernel
theorem dX7_amountOfWord_51 : decode cX7_amountOfWord 51 = .ok (.ifCond .eq 5, 3) := by decide +kernel
theorem dX7_amountOfWord_54 : decode cX7_amountOfWord 54 = .ok (.iconst 3, 1) := by decide +kernel
theorem dX7_amountOfWord_55 : decode cX7_amountOfWord 55 = .ok (.ireturn, 1) := by decide +kernel
theorem dX7_amountOfWord_56 : decode cX7_amountOfWord 56 = .ok (.aload_n 0, 1) := by decide +kernel
theorem dX7_amountOfWord_57 : decode cX7_amountOfWord 57 = .ok (.getfield 12, 3) := by decide +kernel
theorem dX7_amountOfWord_60 : decode cX7_amountOfWord 60 = .ok (.ldc 208, 2) := by decide +kernel
theorem dX7_amountOfWord_62 : decode cX7_amountOfWord 62 = .ok (.invokevirtual 60, 3) := by decide +kernel
theorem dX7_amountOfWord_65 : decode cX7_amountOfWord 65 = .ok (.ifCond .eq 5, 3) := by decide +kernel
theorem dX7_amountOfWord_68 : decode cX7_amountOfWord 68 = .ok (.iconst 4, 1) := by decide +kernel
theorem dX7_amountOfWord_69 : decode cX7_amountOfWord 69 = .ok (.ireturn, 1) := by decide +kernel
theorem dX7_amountOfWord_70 : decode cX7_amountOfWord 70 = .ok (.aload_n 0, 1) := by decide +kernel
theorem dX7_amountOfWord_71 : decode cX7_amountOfWord 71 = .ok (.getfield 12, 3) := by decide +kernel
theorem dX7_amountOfWord_74 : decode cX7_amountOfWord 74 = .ok (.ldc 210, 2) := by decide +kernel
theorem dX7_amountOfWord_76 : decode cX7_amountOfWord 76 = .ok (.invokevirtual 60, 3) := by decide +kernel
theorem dX7_amountOfWord_79 : decode cX7_amountOfWord 79 = .ok (.ifCond .eq 5, 3) := by decide +kernel
theorem dX7_amountOfWord_82 : decode cX7_amountOfWord 82 = .ok (.iconst 5, 1) := by decide +kernel
theorem dX7_amountOfWord_83 : decode cX7_amountOfWord 83 = .ok (.ireturn, 1) := by decide +kernel
theorem dX7_amountOfWord_84 : decode cX7_amountOfWord 84 = .ok (.aload_n 0, 1) := by decide +kernel
theorem dX7_amountOfWord_85 : decode cX7_amountOfWord 85 = .ok (.getfield 12, 3) := by decide +kernel
theorem dX7_amountOfWord_88 : decode cX7_amountOfWord 88 = .ok (.ldc 212, 2) := by decide +kernel
theorem dX7_amountOfWord_90 : decode cX7_amountOfWord 90 = .ok (.invokevirtual 60, 3) := by decide +kernel
theorem dX7_amountOfWord_93 : decode cX7_amountOfWord 93 = .ok (.ifCond .eq 8, 3) := by decide +kernel
theorem dX7_amountOfWord_96 : decode cX7_amountOfWord 96 = .ok (.bipush 6, 2) := by decide +kernel
theorem dX7_amountOfWord_98 : decode cX7_amountOfWord 98 = .ok (.goto 4, 3) := by decide +kernel
theorem dX7_amountOfWord_101 : decode cX7_amountOfWord 101 = .ok (.iconst (-1), 1) := by decide +kernel
theorem dX7_amountOfWord_102 : decode cX7_amountOfWord 102 = .ok (.ireturn, 1) := by decide +kernel
theorem dX8_init_0 : decode cX8_init 0 = .ok (.aload_n 0, 1) := by decide +kernel
theorem dX8_init_1 : decode cX8_init 1 = .ok (.invokespecial 3, 3) := by decide +kernel
theorem dX8_init_4 : decode cX8_init 4 = .ok (.aload_n 0, 1) := by decide +kernel
theorem dX8_init_5 : decode cX8_init 5 = .ok (.sipush 700, 3) := by decide +kernel
theorem dX8_init_8 : decode cX8_init 8 = .ok (.newarray .byte, 2) := by decide +kernel
theorem dX8_init_10 : decode cX8_init 10 = .ok (.putfield 9, 3) := by decide +kernel
theorem dX8_init_13 : decode cX8_init 13 = .ok (.return_, 1) := by decide +kernel
theorem dX8_putFour_0 : decode cX8_putFour 0 = .ok (.bipush 24, 2) := by decide +kernel
theorem dX8_putFour_2 : decode cX8_putFour 2 = .ok (.istore_n 2, 1) := by decide +kernel
theorem dX8_putFour_3 : decode cX8_putFour 3 = .ok (.iload_n 2, 1) := by decide +kernel
theorem dX8_putFour_4 : decode cX8_putFour 4 = .ok (.ifCond .lt 32, 3) := by decide +kernel
theorem dX8_putFour_7 : decode cX8_putFour 7 = .ok (.aload_n 0, 1) := by decide +kernel
theorem dX8_putFour_8 : decode cX8_putFour 8 = .ok (.getfield 9, 3) := by decide +kernel
theorem dX8_putFour_11 : decode cX8_putFour 11 = .ok (.aload_n 0, 1) := by decide +kernel
theorem dX8_putFour_12 : decode cX8_putFour 12 = .ok (.getfield 15, 3) := by decide +kernel
theorem dX8_putFour_15 : decode cX8_putFour 15 = .ok (.iload_n 1, 1) := by decide +kernel
theorem dX8_putFour_16 : decode cX8_putFour 16 = .ok (.iload_n 2, 1) := by decide +kernel
theorem dX8_putFour_17 : decode cX8_putFour 17 = .ok (.ishr, 1) := by decide +kernel
theorem dX8_putFour_18 : decode cX8_putFour 18 = .ok (.i2b, 1) := by decide +kernel
theorem dX8_putFour_19 : decode cX8_putFour 19 = .ok (.bastore, 1) := by decide +kernel
theorem dX8_putFour_20 : decode cX8_putFour 20 = .ok (.aload_n 0, 1) := by decide +kernel
theorem dX8_putFour_21 : decode cX8_putFour 21 = .ok (.dup, 1) := by decide +kernel
theorem dX8_putFour_22 : decode cX8_putFour 22 = .ok (.getfield 15, 3) := by decide +kernel
theorem dX8_putFour_25 : decode cX8_putFour 25 = .ok (.iconst 1, 1) := by decide +kernel
theorem dX8_putFour_26 : decode cX8_putFour 26 = .ok (.iadd, 1) := by decide +kernel
theorem dX8_putFour_27 : decode cX8_putFour 27 = .ok (.putfield 15, 3) := by decide +kernel
theorem dX8_putFour_30 : decode cX8_putFour 30 = .ok (.iinc 2 (-8), 3) := by decide +kernel
theorem dX8_putFour_33 : decode cX8_putFour 33 = .ok (.goto (-30), 3) := by decide +kernel
theorem dX8_putFour_36 : decode cX8_putFour 36 = .ok (.return_, 1) := by decide +kernel
theorem dX8_readFirst_0 : decode cX8_readFirst 0 = .ok (.aload_n 0, 1) := by decide +kernel
theorem dX8_readFirst_1 : decode cX8_readFirst 1 = .ok (.iconst 0, 1) := by decide +kernel
theorem dX8_readFirst_2 : decode cX8_readFirst 2 = .ok (.putfield 19, 3) := by decide +kernel
theorem dX8_readFirst_5 : decode cX8_readFirst 5 = .ok (.aload_n 0, 1) := by decide +kernel
theorem dX8_readFirst_6 : decode cX8_readFirst 6 = .ok (.invokevirtual 22, 3) := by decide +kernel
theorem dX8_readFirst_9 : decode cX8_readFirst 9 = .ok (.return_, 1) := by decide +kernel
theorem dX8_readNext_0 : decode cX8_readNext 0 = .ok (.aload_n 0, 1) := by decide +kernel
theorem dX8_readNext_1 : decode cX8_readNext 1 = .ok (.aload_n 0, 1) := by decide +kernel
theorem dX8_readNext_2 : decode cX8_readNext 2 = .ok (.getfield 19, 3) := by decide +kernel
theorem dX8_readNext_5 : decode cX8_readNext 5 = .ok (.putfield 25, 3) := by decide +kernel
theorem dX8_readNext_8 : decode cX8_readNext 8 = .ok (.aload_n 0, 1) := by decide +kernel
theorem dX8_readNext_9 : decode cX8_readNext 9 = .ok (.getfield 25, 3) := by decide +kernel
theorem dX8_readNext_12 : decode cX8_readNext 12 = .ok (.aload_n 0, 1) := by decide +kernel
theorem dX8_readNext_13 : decode cX8_readNext 13 = .ok (.getfield 15, 3) := by decide +kernel
theorem dX8_readNext_16 : decode cX8_readNext 16 = .ok (.if_icmp .ge 44, 3) := by decide +kernel
theorem dX8_readNext_19 : decode cX8_readNext 19 = .ok (.aload_n 0, 1) := by decide +kernel
theorem dX8_readNext_20 : decode cX8_readNext 20 = .ok (.getfield 9, 3) := by decide +kernel
theorem dX8_readNext_23 : decode cX8_readNext 23 = .ok (.aload_n 0, 1) := by decide +kernel
theorem dX8_readNext_24 : decode cX8_readNext 24 = .ok (.getfield 25, 3) := by decide +kernel
theorem dX8_readNext_27 : decode cX8_readNext 27 = .ok (.baload, 1) := by decide +kernel
theorem dX8_readNext_28 : decode cX8_readNext 28 = .ok (.bipush 32, 2) := by decide +kernel
theorem dX8_readNext_30 : decode cX8_readNext 30 = .ok (.if_icmp .eq 17, 3) := by decide +kernel
theorem dX8_readNext_33 : decode cX8_readNext 33 = .ok (.aload_n 0, 1) := by decide +kernel
theorem dX8_readNext_34 : decode cX8_readNext 34 = .ok (.getfield 9, 3) := by decide +kernel
theorem dX8_readNext_37 : decode cX8_readNext 37 = .ok (.aload_n 0, 1) := by decide +kernel
theorem dX8_readNext_38 : decode cX8_readNext 38 = .ok (.getfield 25, 3) := by decide +kernel
theorem dX8_readNext_41 : decode cX8_readNext 41 = .ok (.baload, 1) := by decide +kernel
theorem dX8_readNext_42 : decode cX8_readNext 42 = .ok (.bipush 10, 2) := by decide +kernel
theorem dX8_readNext_44 : decode cX8_readNext 44 = .ok (.if_icmp .ne 16, 3) := by decide +kernel
theorem dX8_readNext_47 : decode cX8_readNext 47 = .ok (.aload_n 0, 1) := by decide +kernel
theorem dX8_readNext_48 : decode cX8_readNext 48 = .ok (.dup, 1) := by decide +kernel
theorem dX8_readNext_49 : decode cX8_readNext 49 = .ok (.getfield 25, 3) := by decide +kernel
theorem dX8_readNext_52 : decode cX8_readNext 52 = .ok (.iconst 1, 1) := by decide +kernel
theorem dX8_readNext_53 : decode cX8_readNext 53 = .ok (.iadd, 1) := by decide +kernel
theorem dX8_readNext_54 : decode cX8_readNext 54 = .ok (.putfield 25, 3) := by decide +kernel
theorem dX8_readNext_57 : decode cX8_readNext 57 = .ok (.goto (-49), 3) := by decide +kernel
theorem dX8_readNext_60 : decode cX8_readNext 60 = .ok (.aload_n 0, 1) := by decide +kernel
theorem dX8_readNext_61 : decode cX8_readNext 61 = .ok (.aload_n 0, 1) := by decide +kernel
theorem dX8_readNext_62 : decode cX8_readNext 62 = .ok (.getfield 25, 3) := by decide +kernel
theorem dX8_readNext_65 : decode cX8_readNext 65 = .ok (.aload_n 0, 1) := by decide +kernel
theorem dX8_readNext_66 : decode cX8_readNext 66 = .ok (.getfield 15, 3) := by decide +kernel
theorem dX8_readNext_69 : decode cX8_readNext 69 = .ok (.if_icmp .ge 18, 3) := by decide +kernel
theorem dX8_readNext_72 : decode cX8_readNext 72 = .ok (.aload_n 0, 1) := by decide +kernel
theorem dX8_readNext_73 : decode cX8_readNext 73 = .ok (.getfield 9, 3) := by decide +kernel
theorem dX8_readNext_76 : decode cX8_readNext 76 = .ok (.aload_n 0, 1) := by decide +kernel
theorem dX8_readNext_77 : decode cX8_readNext 77 = .ok (.getfield 25, 3) := by decide +kernel
theorem dX8_readNext_80 : decode cX8_readNext 80 = .ok (.baload, 1) := by decide +kernel
theorem dX8_readNext_81 : decode cX8_readNext 81 = .ok (.invokestatic 28, 3) := by decide +kernel
theorem dX8_readNext_84 : decode cX8_readNext 84 = .ok (.goto 4, 3) := by decide +kernel
theorem dX8_readNext_87 : decode cX8_readNext 87 = .ok (.iconst 0, 1) := by decide +kernel
theorem dX8_readNext_88 : decode cX8_readNext 88 = .ok (.putfield 32, 3) := by decide +kernel
theorem dX8_readNext_91 : decode cX8_readNext 91 = .ok (.aload_n 0, 1) := by decide +kernel
theorem dX8_readNext_92 : decode cX8_readNext 92 = .ok (.aload_n 0, 1) := by decide +kernel
theorem dX8_readNext_93 : decode cX8_readNext 93 = .ok (.getfield 25, 3) := by decide +kernel
theorem dX8_readNext_96 : decode cX8_readNext 96 = .ok (.aload_n 0, 1) := by decide +kernel
theorem dX8_readNext_97 : decode cX8_readNext 97 = .ok (.getfield 15, 3) := by decide +kernel
theorem dX8_readNext_100 : decode cX8_readNext 100 = .ok (.if_icmp .ge 12, 3) := by decide +kernel
theorem dX8_readNext_103 : decode cX8_readNext 103 = .ok (.aload_n 0, 1) := by decide +kernel
theorem dX8_readNext_104 : decode cX8_readNext 104 = .ok (.getfield 25, 3) := by decide +kernel
theorem dX8_readNext_107 : decode cX8_readNext 107 = .ok (.iconst 1, 1) := by decide +kernel
theorem dX8_readNext_108 : decode cX8_readNext 108 = .ok (.iadd, 1) := by decide +kernel
theorem dX8_readNext_109 : decode cX8_readNext 109 = .ok (.goto 7, 3) := by decide +kernel
theorem dX8_readNext_112 : decode cX8_readNext 112 = .ok (.aload_n 0, 1) := by decide +kernel
theorem dX8_readNext_113 : decode cX8_readNext 113 = .ok (.getfield 25, 3) := by decide +kernel
theorem dX8_readNext_116 : decode cX8_readNext 116 = .ok (.putfield 19, 3) := by decide +kernel
theorem dX8_readNext_119 : decode cX8_readNext 119 = .ok (.aload_n 0, 1) := by decide +kernel
theorem dX8_readNext_120 : decode cX8_readNext 120 = .ok (.getfield 32, 3) := by decide +kernel
theorem dX8_readNext_123 : decode cX8_readNext 123 = .ok (.iconst 1, 1) := by decide +kernel
theorem dX8_readNext_124 : decode cX8_readNext 124 = .ok (.if_icmp .eq 11, 3) := by decide +kernel
theorem dX8_readNext_127 : decode cX8_readNext 127 = .ok (.aload_n 0, 1) := by decide +kernel
theorem dX8_readNext_128 : decode cX8_readNext 128 = .ok (.getfield 32, 3) := by decide +kernel
theorem dX8_readNext_131 : decode cX8_readNext 131 = .ok (.iconst 2, 1) := by decide +kernel
theorem dX8_readNext_132 : decode cX8_readNext 132 = .ok (.if_icmp .ne 46, 3) := by decide +kernel
theorem dX8_readNext_135 : decode cX8_readNext 135 = .ok (.aload_n 0, 1) := by decide +kernel
theorem dX8_readNext_136 : decode cX8_readNext 136 = .ok (.getfield 19, 3) := by decide +kernel
theorem dX8_readNext_139 : decode cX8_readNext 139 = .ok (.aload_n 0, 1) := by decide +kernel
theorem dX8_readNext_140 : decode cX8_readNext 140 = .ok (.getfield 15, 3) := by decide +kernel
theorem dX8_readNext_143 : decode cX8_readNext 143 = .ok (.if_icmp .ge 35, 3) := by decide +kernel
theorem dX8_readNext_146 : decode cX8_readNext 146 = .ok (.aload_n 0, 1) := by decide +kernel
theorem dX8_readNext_147 : decode cX8_readNext 147 = .ok (.getfield 9, 3) := by decide +kernel
theorem dX8_readNext_150 : decode cX8_readNext 150 = .ok (.aload_n 0, 1) := by decide +kernel
theorem dX8_readNext_151 : decode cX8_readNext 151 = .ok (.getfield 19, 3) := by decide +kernel
theorem dX8_readNext_154 : decode cX8_readNext 154 = .ok (.baload, 1) := by decide +kernel
theorem dX8_readNext_155 : decode cX8_readNext 155 = .ok (.invokestatic 28, 3) := by decide +kernel
theorem dX8_readNext_158 : decode cX8_readNext 158 = .ok (.aload_n 0, 1) := by decide +kernel
theorem dX8_readNext_159 : decode cX8_readNext 159 = .ok (.getfield 32, 3) := by decide +kernel
theorem dX8_readNext_162 : decode cX8_readNext 162 = .ok (.if_icmp .ne 16, 3) := by decide +kernel
theorem dX8_readNext_165 : decode cX8_readNext 165 = .ok (.aload_n 0, 1) := by decide +kernel
theorem dX8_readNext_166 : decode cX8_readNext 166 = .ok (.dup, 1) := by decide +kernel
theorem dX8_readNext_167 : decode cX8_readNext 167 = .ok (.getfield 19, 3) := by decide +kernel
theorem dX8_readNext_170 : decode cX8_readNext 170 = .ok (.iconst 1, 1) := by decide +kernel
theorem dX8_readNext_171 : decode cX8_readNext 171 = .ok (.iadd, 1) := by decide +kernel
theorem dX8_readNext_172 : decode cX8_readNext 172 = .ok (.putfield 19, 3) := by decide +kernel
theorem dX8_readNext_175 : decode cX8_readNext 175 = .ok (.goto (-40), 3) := by decide +kernel
theorem dX8_readNext_178 : decode cX8_readNext 178 = .ok (.aload_n 0, 1) := by decide +kernel
theorem dX8_readNext_179 : decode cX8_readNext 179 = .ok (.getfield 32, 3) := by decide +kernel
theorem dX8_readNext_182 : decode cX8_readNext 182 = .ok (.iconst 2, 1) := by decide +kernel
theorem dX8_readNext_183 : decode cX8_readNext 183 = .ok (.if_icmp .ne 7, 3) := by decide +kernel
theorem dX8_readNext_186 : decode cX8_readNext 186 = .ok (.aload_n 0, 1) := by decide +kernel
theorem dX8_readNext_187 : decode cX8_readNext 187 = .ok (.invokevirtual 35, 3) := by decide +kernel
theorem dX8_readNext_190 : decode cX8_readNext 190 = .ok (.return_, 1) := by decide +kernel
theorem dX8_isWord_0 : decode cX8_isWord 0 = .ok (.aload_n 0, 1) := by decide +kernel
theorem dX8_isWord_1 : decode cX8_isWord 1 = .ok (.getfield 32, 3) := by decide +kernel
theorem dX8_isWord_4 : decode cX8_isWord 4 = .ok (.iconst 1, 1) := by decide +kernel
theorem dX8_isWord_5 : decode cX8_isWord 5 = .ok (.if_icmp .ne 19, 3) := by decide +kernel
theorem dX8_isWord_8 : decode cX8_isWord 8 = .ok (.aload_n 0, 1) := by decide +kernel
theorem dX8_isWord_9 : decode cX8_isWord 9 = .ok (.getfield 19, 3) := by decide +kernel
theorem dX8_isWord_12 : decode cX8_isWord 12 = .ok (.aload_n 0, 1) := by decide +kernel
theorem dX8_isWord_13 : decode cX8_isWord 13 = .ok (.getfield 25, 3) := by decide +kernel
theorem dX8_isWord_16 : decode cX8_isWord 16 = .ok (.isub, 1) := by decide +kernel
theorem dX8_isWord_17 : decode cX8_isWord 17 = .ok (.aload_n 1, 1) := by decide +kernel
theorem dX8_isWord_18 : decode cX8_isWord 18 = .ok (.invokevirtual 38, 3) := by decide +kernel
theorem dX8_isWord_21 : decode cX8_isWord 21 = .ok (.if_icmp .eq 5, 3) := by decide +kernel
theorem dX8_isWord_24 : decode cX8_isWord 24 = .ok (.iconst 0, 1) := by decide +kernel
theorem dX8_isWord_25 : decode cX8_isWord 25 = .ok (.ireturn, 1) := by decide +kernel
theorem dX8_isWord_26 : decode cX8_isWord 26 = .ok (.iconst 0, 1) := by decide +kernel
theorem dX8_isWord_27 : decode cX8_isWord 27 = .ok (.istore_n 2, 1) := by decide +kernel
theorem dX8_isWord_28 : decode cX8_isWord 28 = .ok (.iload_n 2, 1) := by decide +kernel
theorem dX8_isWord_29 : decode cX8_isWord 29 = .ok (.aload_n 1, 1) := by decide +kernel
theorem dX8_isWord_30 : decode cX8_isWord 30 = .ok (.invokevirtual 38, 3) := by decide +kernel
theorem dX8_isWord_33 : decode cX8_isWord 33 = .ok (.if_icmp .ge 30, 3) := by decide +kernel
theorem dX8_isWord_36 : decode cX8_isWord 36 = .ok (.aload_n 0, 1) := by decide +kernel
theorem dX8_isWord_37 : decode cX8_isWord 37 = .ok (.getfield 9, 3) := by decide +kernel
theorem dX8_isWord_40 : decode cX8_isWord 40 = .ok (.aload_n 0, 1) := by decide +kernel
theorem dX8_isWord_41 : decode cX8_isWord 41 = .ok (.getfield 25, 3) := by decide +kernel
theorem dX8_isWord_44 : decode cX8_isWord 44 = .ok (.iload_n 2, 1) := by decide +kernel
theorem dX8_isWord_45 : decode cX8_isWord 45 = .ok (.iadd, 1) := by decide +kernel
theorem dX8_isWord_46 : decode cX8_isWord 46 = .ok (.baload, 1) := by decide +kernel
theorem dX8_isWord_47 : decode cX8_isWord 47 = .ok (.aload_n 1, 1) := by decide +kernel
theorem dX8_isWord_48 : decode cX8_isWord 48 = .ok (.iload_n 2, 1) := by decide +kernel
theorem dX8_isWord_49 : decode cX8_isWord 49 = .ok (.invokevirtual 43, 3) := by decide +kernel
theorem dX8_isWord_52 : decode cX8_isWord 52 = .ok (.if_icmp .eq 5, 3) := by decide +kernel
theorem dX8_isWord_55 : decode cX8_isWord 55 = .ok (.iconst 0, 1) := by decide +kernel
theorem dX8_isWord_56 : decode cX8_isWord 56 = .ok (.ireturn, 1) := by decide +kernel
theorem dX8_isWord_57 : decode cX8_isWord 57 = .ok (.iinc 2 1, 3) := by decide +kernel
theorem dX8_isWord_60 : decode cX8_isWord 60 = .ok (.goto (-32), 3) := by decide +kernel
theorem dX8_isWord_63 : decode cX8_isWord 63 = .ok (.iconst 1, 1) := by decide +kernel
theorem dX8_isWord_64 : decode cX8_isWord 64 = .ok (.ireturn, 1) := by decide +kernel
theorem dX8_readValue_0 : decode cX8_readValue 0 = .ok (.aload_n 0, 1) := by decide +kernel
theorem dX8_readValue_1 : decode cX8_readValue 1 = .ok (.iconst 0, 1) := by decide +kernel
theorem dX8_readValue_2 : decode cX8_readValue 2 = .ok (.putfield 47, 3) := by decide +kernel
theorem dX8_readValue_5 : decode cX8_readValue 5 = .ok (.aload_n 0, 1) := by decide +kernel
theorem dX8_readValue_6 : decode cX8_readValue 6 = .ok (.getfield 19, 3) := by decide +kernel
theorem dX8_readValue_9 : decode cX8_readValue 9 = .ok (.aload_n 0, 1) := by decide +kernel
theorem dX8_readValue_10 : decode cX8_readValue 10 = .ok (.getfield 25, 3) := by decide +kernel
theorem dX8_readValue_13 : decode cX8_readValue 13 = .ok (.isub, 1) := by decide +kernel
theorem dX8_readValue_14 : decode cX8_readValue 14 = .ok (.bipush 6, 2) := by decide +kernel
theorem dX8_readValue_16 : decode cX8_readValue 16 = .ok (.if_icmp .le 9, 3) := by decide +kernel
theorem dX8_readValue_19 : decode cX8_readValue 19 = .ok (.aload_n 0, 1) := by decide +kernel
theorem dX8_readValue_20 : decode cX8_readValue 20 = .ok (.iconst 4, 1) := by decide +kernel
theorem dX8_readValue_21 : decode cX8_readValue 21 = .ok (.putfield 32, 3) := by decide +kernel
theorem dX8_readValue_24 : decode cX8_readValue 24 = .ok (.return_, 1) := by decide +kernel
theorem dX8_readValue_25 : decode cX8_readValue 25 = .ok (.aload_n 0, 1) := by decide +kernel
theorem dX8_readValue_26 : decode cX8_readValue 26 = .ok (.getfield 25, 3) := by decide +kernel
theorem dX8_readValue_29 : decode cX8_readValue 29 = .ok (.istore_n 1, 1) := by decide +kernel
theorem dX8_readValue_30 : decode cX8_readValue 30 = .ok (.iload_n 1, 1) := by decide +kernel
theorem dX8_readValue_31 : decode cX8_readValue 31 = .ok (.aload_n 0, 1) := by decide +kernel
theorem dX8_readValue_32 : decode cX8_readValue 32 = .ok (.getfield 19, 3) := by decide +kernel
theorem dX8_readValue_35 : decode cX8_readValue 35 = .ok (.if_icmp .ge 30, 3) := by decide +kernel
theorem dX8_readValue_38 : decode cX8_readValue 38 = .ok (.aload_n 0, 1) := by decide +kernel
theorem dX8_readValue_39 : decode cX8_readValue 39 = .ok (.aload_n 0, 1) := by decide +kernel
theorem dX8_readValue_40 : decode cX8_readValue 40 = .ok (.getfield 47, 3) := by decide +kernel
theorem dX8_readValue_43 : decode cX8_readValue 43 = .ok (.bipush 10, 2) := by decide +kernel
theorem dX8_readValue_45 : decode cX8_readValue 45 = .ok (.imul, 1) := by decide +kernel
theorem dX8_readValue_46 : decode cX8_readValue 46 = .ok (.aload_n 0, 1) := by decide +kernel
theorem dX8_readValue_47 : decode cX8_readValue 47 = .ok (.getfield 9, 3) := by decide +kernel
theorem dX8_readValue_50 : decode cX8_readValue 50 = .ok (.iload_n 1, 1) := by decide +kernel
theorem dX8_readValue_51 : decode cX8_readValue 51 = .ok (.baload, 1) := by decide +kernel
theorem dX8_readValue_52 : decode cX8_readValue 52 = .ok (.iadd, 1) := by decide +kernel
theorem dX8_readValue_53 : decode cX8_readValue 53 = .ok (.bipush 48, 2) := by decide +kernel
theorem dX8_readValue_55 : decode cX8_readValue 55 = .ok (.isub, 1) := by decide +kernel
theorem dX8_readValue_56 : decode cX8_readValue 56 = .ok (.putfield 47, 3) := by decide +kernel
theorem dX8_readValue_59 : decode cX8_readValue 59 = .ok (.iinc 1 1, 3) := by decide +kernel
theorem dX8_readValue_62 : decode cX8_readValue 62 = .ok (.goto (-32), 3) := by decide +kernel
theorem dX8_readValue_65 : decode cX8_readValue 65 = .ok (.return_, 1) := by decide +kernel
theorem dX8_kindOf_0 : decode cX8_kindOf 0 = .ok (.iload_n 0, 1) := by decide +kernel
theorem dX8_kindOf_1 : decode cX8_kindOf 1 = .ok (.bipush 97, 2) := by decide +kernel
theorem dX8_kindOf_3 : decode cX8_kindOf 3 = .ok (.if_icmp .lt 11, 3) := by decide +kernel
theorem dX8_kindOf_6 : decode cX8_kindOf 6 = .ok (.iload_n 0, 1) := by decide +kernel
theorem dX8_kindOf_7 : decode cX8_kindOf 7 = .ok (.bipush 122, 2) := by decide +kernel
theorem dX8_kindOf_9 : decode cX8_kindOf 9 = .ok (.if_icmp .gt 5, 3) := by decide +kernel
theorem dX8_kindOf_12 : decode cX8_kindOf 12 = .ok (.iconst 1, 1) := by decide +kernel
theorem dX8_kindOf_13 : decode cX8_kindOf 13 = .ok (.ireturn, 1) := by decide +kernel
theorem dX8_kindOf_14 : decode cX8_kindOf 14 = .ok (.iload_n 0, 1) := by decide +kernel
theorem dX8_kindOf_15 : decode cX8_kindOf 15 = .ok (.bipush 48, 2) := by decide +kernel
theorem dX8_kindOf_17 : decode cX8_kindOf 17 = .ok (.if_icmp .lt 11, 3) := by decide +kernel
theorem dX8_kindOf_20 : decode cX8_kindOf 20 = .ok (.iload_n 0, 1) := by decide +kernel
theorem dX8_kindOf_21 : decode cX8_kindOf 21 = .ok (.bipush 57, 2) := by decide +kernel
theorem dX8_kindOf_23 : decode cX8_kindOf 23 = .ok (.if_icmp .gt 5, 3) := by decide +kernel
theorem dX8_kindOf_26 : decode cX8_kindOf 26 = .ok (.iconst 2, 1) := by decide +kernel
theorem dX8_kindOf_27 : decode cX8_kindOf 27 = .ok (.ireturn, 1) := by decide +kernel
theorem dX8_kindOf_28 : decode cX8_kindOf 28 = .ok (.iload_n 0, 1) := by decide +kernel
theorem dX8_kindOf_29 : decode cX8_kindOf 29 = .ok (.bipush 59, 2) := by decide +kernel
theorem dX8_kindOf_31 : decode cX8_kindOf 31 = .ok (.if_icmp .ne 7, 3) := by decide +kernel
theorem dX8_kindOf_34 : decode cX8_kindOf 34 = .ok (.iconst 3, 1) := by decide +kernel
theorem dX8_kindOf_35 : decode cX8_kindOf 35 = .ok (.goto 4, 3) := by decide +kernel
theorem dX8_kindOf_38 : decode cX8_kindOf 38 = .ok (.iconst 4, 1) := by decide +kernel
theorem dX8_kindOf_39 : decode cX8_kindOf 39 = .ok (.ireturn, 1) := by decide +kernel
theorem dX9_init_0 : decode cX9_init 0 = .ok (.aload_n 0, 1) := by decide +kernel
theorem dX9_init_1 : decode cX9_init 1 = .ok (.invokespecial 1, 3) := by decide +kernel
theorem dX9_init_4 : decode cX9_init 4 = .ok (.aload_n 0, 1) := by decide +kernel
theorem dX9_init_5 : decode cX9_init 5 = .ok (.new 7, 3) := by decide +kernel
theorem dX9_init_8 : decode cX9_init 8 = .ok (.dup, 1) := by decide +kernel
theorem dX9_init_9 : decode cX9_init 9 = .ok (.invokespecial 9, 3) := by decide +kernel
theorem dX9_init_12 : decode cX9_init 12 = .ok (.putfield 10, 3) := by decide +kernel
theorem dX9_init_15 : decode cX9_init 15 = .ok (.aload_n 0, 1) := by decide +kernel
theorem dX9_init_16 : decode cX9_init 16 = .ok (.new 7, 3) := by decide +kernel
theorem dX9_init_19 : decode cX9_init 19 = .ok (.dup, 1) := by decide +kernel
theorem dX9_init_20 : decode cX9_init 20 = .ok (.invokespecial 9, 3) := by decide +kernel
theorem dX9_init_23 : decode cX9_init 23 = .ok (.putfield 16, 3) := by decide +kernel
theorem dX9_init_26 : decode cX9_init 26 = .ok (.aload_n 0, 1) := by decide +kernel
theorem dX9_init_27 : decode cX9_init 27 = .ok (.new 19, 3) := by decide +kernel
theorem dX9_init_30 : decode cX9_init 30 = .ok (.dup, 1) := by decide +kernel
theorem dX9_init_31 : decode cX9_init 31 = .ok (.invokespecial 21, 3) := by decide +kernel
theorem dX9_init_34 : decode cX9_init 34 = .ok (.putfield 22, 3) := by decide +kernel
theorem dX9_init_37 : decode cX9_init 37 = .ok (.aload_n 0, 1) := by decide +kernel
theorem dX9_init_38 : decode cX9_init 38 = .ok (.new 26, 3) := by decide +kernel
theorem dX9_init_41 : decode cX9_init 41 = .ok (.dup, 1) := by decide +kernel
theorem dX9_init_42 : decode cX9_init 42 = .ok (.invokespecial 28, 3) := by decide +kernel
theorem dX9_init_45 : decode cX9_init 45 = .ok (.putfield 29, 3) := by decide +kernel
theorem dX9_init_48 : decode cX9_init 48 = .ok (.aload_n 0, 1) := by decide +kernel
theorem dX9_init_49 : decode cX9_init 49 = .ok (.new 33, 3) := by decide +kernel
theorem dX9_init_52 : decode cX9_init 52 = .ok (.dup, 1) := by decide +kernel
theorem dX9_init_53 : decode cX9_init 53 = .ok (.invokespecial 35, 3) := by decide +kernel
theorem dX9_init_56 : decode cX9_init 56 = .ok (.putfield 36, 3) := by decide +kernel
theorem dX9_init_59 : decode cX9_init 59 = .ok (.aload_n 0, 1) := by decide +kernel
theorem dX9_init_60 : decode cX9_init 60 = .ok (.new 40, 3) := by decide +kernel
theorem dX9_init_63 : decode cX9_init 63 = .ok (.dup, 1) := by decide +kernel
theorem dX9_init_64 : decode cX9_init 64 = .ok (.invokespecial 42, 3) := by decide +kernel
theorem dX9_init_67 : decode cX9_init 67 = .ok (.putfield 43, 3) := by decide +kernel
theorem dX9_init_70 : decode cX9_init 70 = .ok (.aload_n 0, 1) := by decide +kernel
theorem dX9_init_71 : decode cX9_init 71 = .ok (.new 47, 3) := by decide +kernel
theorem dX9_init_74 : decode cX9_init 74 = .ok (.dup, 1) := by decide +kernel
theorem dX9_init_75 : decode cX9_init 75 = .ok (.invokespecial 49, 3) := by decide +kernel
theorem dX9_init_78 : decode cX9_init 78 = .ok (.putfield 50, 3) := by decide +kernel
theorem dX9_init_81 : decode cX9_init 81 = .ok (.aload_n 0, 1) := by decide +kernel
theorem dX9_init_82 : decode cX9_init 82 = .ok (.bipush 64, 2) := by decide +kernel
theorem dX9_init_84 : decode cX9_init 84 = .ok (.newarray .int, 2) := by decide +kernel
theorem dX9_init_86 : decode cX9_init 86 = .ok (.putfield 54, 3) := by decide +kernel
theorem dX9_init_89 : decode cX9_init 89 = .ok (.aload_n 0, 1) := by decide +kernel
theorem dX9_init_90 : decode cX9_init 90 = .ok (.iconst 0, 1) := by decide +kernel
theorem dX9_init_91 : decode cX9_init 91 = .ok (.putfield 58, 3) := by decide +kernel
theorem dX9_init_94 : decode cX9_init 94 = .ok (.return_, 1) := by decide +kernel
theorem dX9_appendInput_0 : decode cX9_appendInput 0 = .ok (.aload_n 0, 1) := by decide +kernel
theorem dX9_appendInput_1 : decode cX9_appendInput 1 = .ok (.getfield 29, 3) := by decide +kernel
theorem dX9_appendInput_4 : decode cX9_appendInput 4 = .ok (.getfield 62, 3) := by decide +kernel
theorem dX9_appendInput_7 : decode cX9_appendInput 7 = .ok (.astore 6, 2) := by decide +kernel
theorem dX9_appendInput_9 : decode cX9_appendInput 9 = .ok (.aload 6, 2) := by decide +kernel
theorem dX9_appendInput_11 : decode cX9_appendInput 11 = .ok (.getfield 66, 3) := by decide +kernel
theorem dX9_appendInput_14 : decode cX9_appendInput 14 = .ok (.bipush 20, 2) := by decide +kernel
theorem dX9_appendInput_16 : decode cX9_appendInput 16 = .ok (.iadd, 1) := by decide +kernel
theorem dX9_appendInput_17 : decode cX9_appendInput 17 = .ok (.sipush 700, 3) := by decide +kernel
theorem dX9_appendInput_20 : decode cX9_appendInput 20 = .ok (.if_icmp .le 5, 3) := by decide +kernel
theorem dX9_appendInput_23 : decode cX9_appendInput 23 = .ok (.iconst (-1), 1) := by decide +kernel
theorem dX9_appendInput_24 : decode cX9_appendInput 24 = .ok (.ireturn, 1) := by decide +kernel
theorem dX9_appendInput_25 : decode cX9_appendInput 25 = .ok (.aload 6, 2) := by decide +kernel
theorem dX9_appendInput_27 : decode cX9_appendInput 27 = .ok (.iload_n 1, 1) := by decide +kernel
theorem dX9_appendInput_28 : decode cX9_appendInput 28 = .ok (.invokevirtual 72, 3) := by decide +kernel
theorem dX9_appendInput_31 : decode cX9_appendInput 31 = .ok (.aload 6, 2) := by decide +kernel
theorem dX9_appendInput_33 : decode cX9_appendInput 33 = .ok (.iload_n 2, 1) := by decide +kernel
theorem dX9_appendInput_34 : decode cX9_appendInput 34 = .ok (.invokevirtual 72, 3) := by decide +kernel
theorem dX9_appendInput_37 : decode cX9_appendInput 37 = .ok (.aload 6, 2) := by decide +kernel
theorem dX9_appendInput_39 : decode cX9_appendInput 39 = .ok (.iload_n 3, 1) := by decide +kernel
theorem dX9_appendInput_40 : decode cX9_appendInput 40 = .ok (.invokevirtual 72, 3) := by decide +kernel
theorem dX9_appendInput_43 : decode cX9_appendInput 43 = .ok (.aload 6, 2) := by decide +kernel
theorem dX9_appendInput_45 : decode cX9_appendInput 45 = .ok (.iload 4, 2) := by decide +kernel
theorem dX9_appendInput_47 : decode cX9_appendInput 47 = .ok (.invokevirtual 72, 3) := by decide +kernel
theorem dX9_appendInput_50 : decode cX9_appendInput 50 = .ok (.aload 6, 2) := by decide +kernel
theorem dX9_appendInput_52 : decode cX9_appendInput 52 = .ok (.iload 5, 2) := by decide +kernel
theorem dX9_appendInput_54 : decode cX9_appendInput 54 = .ok (.invokevirtual 72, 3) := by decide +kernel
theorem dX9_appendInput_57 : decode cX9_appendInput 57 = .ok (.aload 6, 2) := by decide +kernel
theorem dX9_appendInput_59 : decode cX9_appendInput 59 = .ok (.getfield 66, 3) := by decide +kernel
theorem dX9_appendInput_62 : decode cX9_appendInput 62 = .ok (.ireturn, 1) := by decide +kernel
theorem dX9_truncateInput_0 : decode cX9_truncateInput 0 = .ok (.aload_n 0, 1) := by decide +kernel
theorem dX9_truncateInput_1 : decode cX9_truncateInput 1 = .ok (.getfield 29, 3) := by decide +kernel
theorem dX9_truncateInput_4 : decode cX9_truncateInput 4 = .ok (.getfield 62, 3) := by decide +kernel
theorem dX9_truncateInput_7 : decode cX9_truncateInput 7 = .ok (.astore_n 2, 1) := by decide +kernel
theorem dX9_truncateInput_8 : decode cX9_truncateInput 8 = .ok (.iload_n 1, 1) := by decide +kernel
theorem dX9_truncateInput_9 : decode cX9_truncateInput 9 = .ok (.ifCond .lt 11, 3) := by decide +kernel
theorem dX9_truncateInput_12 : decode cX9_truncateInput 12 = .ok (.iload_n 1, 1) := by decide +kernel
theorem dX9_truncateInput_13 : decode cX9_truncateInput 13 = .ok (.aload_n 2, 1) := by decide +kernel
theorem dX9_truncateInput_14 : decode cX9_truncateInput 14 = .ok (.getfield 66, 3) := by decide +kernel
theorem dX9_truncateInput_17 : decode cX9_truncateInput 17 = .ok (.if_icmp .le 5, 3) := by decide +kernel
theorem dX9_truncateInput_20 : decode cX9_truncateInput 20 = .ok (.iconst 0, 1) := by decide +kernel
theorem dX9_truncateInput_21 : decode cX9_truncateInput 21 = .ok (.ireturn, 1) := by decide +kernel
theorem dX9_truncateInput_22 : decode cX9_truncateInput 22 = .ok (.aload_n 2, 1) := by decide +kernel
theorem dX9_truncateInput_23 : decode cX9_truncateInput 23 = .ok (.iload_n 1, 1) := by decide +kernel
theorem dX9_truncateInput_24 : decode cX9_truncateInput 24 = .ok (.putfield 66, 3) := by decide +kernel
theorem dX9_truncateInput_27 : decode cX9_truncateInput 27 = .ok (.iconst 1, 1) := by decide +kernel
theorem dX9_truncateInput_28 : decode cX9_truncateInput 28 = .ok (.ireturn, 1) := by decide +kernel
theorem dX9_loadRoad_0 : decode cX9_loadRoad 0 = .ok (.aload_n 0, 1) := by decide +kernel
theorem dX9_loadRoad_1 : decode cX9_loadRoad 1 = .ok (.getfield 29, 3) := by decide +kernel
theorem dX9_loadRoad_4 : decode cX9_loadRoad 4 = .ok (.invokevirtual 76, 3) := by decide +kernel
theorem dX9_loadRoad_7 : decode cX9_loadRoad 7 = .ok (.istore_n 1, 1) := by decide +kernel
theorem dX9_loadRoad_8 : decode cX9_loadRoad 8 = .ok (.aload_n 0, 1) := by decide +kernel
theorem dX9_loadRoad_9 : decode cX9_loadRoad 9 = .ok (.getfield 29, 3) := by decide +kernel
theorem dX9_loadRoad_12 : decode cX9_loadRoad 12 = .ok (.getfield 62, 3) := by decide +kernel
theorem dX9_loadRoad_15 : decode cX9_loadRoad 15 = .ok (.iconst 0, 1) := by decide +kernel
theorem dX9_loadRoad_16 : decode cX9_loadRoad 16 = .ok (.putfield 66, 3) := by decide +kernel
theorem dX9_loadRoad_19 : decode cX9_loadRoad 19 = .ok (.iload_n 1, 1) := by decide +kernel
theorem dX9_loadRoad_20 : decode cX9_loadRoad 20 = .ok (.ifCond .ne 5, 3) := by decide +kernel
theorem dX9_loadRoad_23 : decode cX9_loadRoad 23 = .ok (.iconst (-1), 1) := by decide +kernel
theorem dX9_loadRoad_24 : decode cX9_loadRoad 24 = .ok (.ireturn, 1) := by decide +kernel
theorem dX9_loadRoad_25 : decode cX9_loadRoad 25 = .ok (.aload_n 0, 1) := by decide +kernel
theorem dX9_loadRoad_26 : decode cX9_loadRoad 26 = .ok (.getfield 10, 3) := by decide +kernel
theorem dX9_loadRoad_29 : decode cX9_loadRoad 29 = .ok (.aload_n 0, 1) := by decide +kernel
theorem dX9_loadRoad_30 : decode cX9_loadRoad 30 = .ok (.getfield 29, 3) := by decide +kernel
theorem dX9_loadRoad_33 : decode cX9_loadRoad 33 = .ok (.getfield 80, 3) := by decide +kernel
theorem dX9_loadRoad_36 : decode cX9_loadRoad 36 = .ok (.invokevirtual 83, 3) := by decide +kernel
theorem dX9_loadRoad_39 : decode cX9_loadRoad 39 = .ok (.aload_n 0, 1) := by decide +kernel
theorem dX9_loadRoad_40 : decode cX9_loadRoad 40 = .ok (.getfield 22, 3) := by decide +kernel
theorem dX9_loadRoad_43 : decode cX9_loadRoad 43 = .ok (.invokevirtual 87, 3) := by decide +kernel
theorem dX9_loadRoad_46 : decode cX9_loadRoad 46 = .ok (.aload_n 0, 1) := by decide +kernel
theorem dX9_loadRoad_47 : decode cX9_loadRoad 47 = .ok (.iconst 0, 1) := by decide +kernel
theorem dX9_loadRoad_48 : decode cX9_loadRoad 48 = .ok (.putfield 58, 3) := by decide +kernel
theorem dX9_loadRoad_51 : decode cX9_loadRoad 51 = .ok (.aload_n 0, 1) := by decide +kernel
theorem dX9_loadRoad_52 : decode cX9_loadRoad 52 = .ok (.getfield 10, 3) := by decide +kernel
theorem dX9_loadRoad_55 : decode cX9_loadRoad 55 = .ok (.invokevirtual 90, 3) := by decide +kernel
theorem dX9_loadRoad_58 : decode cX9_loadRoad 58 = .ok (.ireturn, 1) := by decide +kernel
theorem dX9_errorCode_0 : decode cX9_errorCode 0 = .ok (.aload_n 0, 1) := by decide +kernel
theorem dX9_errorCode_1 : decode cX9_errorCode 1 = .ok (.getfield 29, 3) := by decide +kernel
theorem dX9_errorCode_4 : decode cX9_errorCode 4 = .ok (.getfield 94, 3) := by decide +kernel
theorem dX9_errorCode_7 : decode cX9_errorCode 7 = .ok (.ireturn, 1) := by decide +kernel
theorem dX9_errorOffset_0 : decode cX9_errorOffset 0 = .ok (.aload_n 0, 1) := by decide +kernel
theorem dX9_errorOffset_1 : decode cX9_errorOffset 1 = .ok (.getfield 29, 3) := by decide +kernel
theorem dX9_errorOffset_4 : decode cX9_errorOffset 4 = .ok (.getfield 97, 3) := by decide +kernel
theorem dX9_errorOffset_7 : decode cX9_errorOffset 7 = .ok (.ireturn, 1) := by decide +kernel
theorem dX9_count_0 : decode cX9_count 0 = .ok (.iload_n 1, 1) := by decide +kernel
theorem dX9_count_1 : decode cX9_count 1 = .ok (.iconst 0, 1) := by decide +kernel
theorem dX9_count_2 : decode cX9_count 2 = .ok (.bipush 13, 2) := by decide +kernel
theorem dX9_count_4 : decode cX9_count 4 = .ok (.invokestatic 100, 3) := by decide +kernel
theorem dX9_count_7 : decode cX9_count 7 = .ok (.iload_n 1, 1) := by decide +kernel
theorem dX9_count_8 : decode cX9_count 8 = .ok (.tableswitch 193 0 12 #[68, 76, 84, 92, 103, 114, 122, 133, 143, 153, 163, 171, 182], 68) := by decide +kernel
theorem dX9_count_76 : decode cX9_count 76 = .ok (.aload_n 0, 1) := by decide +kernel
theorem dX9_count_77 : decode cX9_count 77 = .ok (.getfield 10, 3) := by decide +kernel
theorem dX9_count_80 : decode cX9_count 80 = .ok (.getfield 104, 3) := by decide +kernel
theorem dX9_count_83 : decode cX9_count 83 = .ok (.ireturn, 1) := by decide +kernel
theorem dX9_count_84 : decode cX9_count 84 = .ok (.aload_n 0, 1) := by decide +kernel
theorem dX9_count_85 : decode cX9_count 85 = .ok (.getfield 10, 3) := by decide +kernel
theorem dX9_count_88 : decode cX9_count 88 = .ok (.getfield 107, 3) := by decide +kernel
theorem dX9_count_91 : decode cX9_count 91 = .ok (.ireturn, 1) := by decide +kernel
theorem dX9_count_92 : decode cX9_count 92 = .ok (.aload_n 0, 1) := by decide +kernel
theorem dX9_count_93 : decode cX9_count 93 = .ok (.getfield 10, 3) := by decide +kernel
theorem dX9_count_96 : decode cX9_count 96 = .ok (.invokevirtual 90, 3) := by decide +kernel
theorem dX9_count_99 : decode cX9_count 99 = .ok (.ireturn, 1) := by decide +kernel
theorem dX9_count_100 : decode cX9_count 100 = .ok (.aload_n 0, 1) := by decide +kernel
theorem dX9_count_101 : decode cX9_count 101 = .ok (.getfield 10, 3) := by decide +kernel
theorem dX9_count_104 : decode cX9_count 104 = .ok (.getfield 110, 3) := by decide +kernel
theorem dX9_count_107 : decode cX9_count 107 = .ok (.getfield 114, 3) := by decide +kernel
theorem dX9_count_110 : decode cX9_count 110 = .ok (.ireturn, 1) := by decide +kernel
theorem dX9_count_111 : decode cX9_count 111 = .ok (.aload_n 0, 1) := by decide +kernel
theorem dX9_count_112 : decode cX9_count 112 = .ok (.getfield 10, 3) := by decide +kernel
theorem dX9_count_115 : decode cX9_count 115 = .ok (.getfield 119, 3) := by decide +kernel
theorem dX9_count_118 : decode cX9_count 118 = .ok (.getfield 123, 3) := by decide +kernel
theorem dX9_count_121 : decode cX9_count 121 = .ok (.ireturn, 1) := by decide +kernel
theorem dX9_count_122 : decode cX9_count 122 = .ok (.aload_n 0, 1) := by decide +kernel
theorem dX9_count_123 : decode cX9_count 123 = .ok (.getfield 10, 3) := by decide +kernel
theorem dX9_count_126 : decode cX9_count 126 = .ok (.getfield 126, 3) := by decide +kernel
theorem dX9_count_129 : decode cX9_count 129 = .ok (.ireturn, 1) := by decide +kernel
theorem dX9_count_130 : decode cX9_count 130 = .ok (.aload_n 0, 1) := by decide +kernel
theorem dX9_count_131 : decode cX9_count 131 = .ok (.getfield 10, 3) := by decide +kernel
theorem dX9_count_134 : decode cX9_count 134 = .ok (.getfield 129, 3) := by decide +kernel
theorem dX9_count_137 : decode cX9_count 137 = .ok (.bipush 6, 2) := by decide +kernel
theorem dX9_count_139 : decode cX9_count 139 = .ok (.iaload, 1) := by decide +kernel
theorem dX9_count_140 : decode cX9_count 140 = .ok (.ireturn, 1) := by decide +kernel
theorem dX9_count_141 : decode cX9_count 141 = .ok (.aload_n 0, 1) := by decide +kernel
theorem dX9_count_142 : decode cX9_count 142 = .ok (.getfield 10, 3) := by decide +kernel
theorem dX9_count_145 : decode cX9_count 145 = .ok (.getfield 132, 3) := by decide +kernel
theorem dX9_count_148 : decode cX9_count 148 = .ok (.iconst 1, 1) := by decide +kernel
theorem dX9_count_149 : decode cX9_count 149 = .ok (.iaload, 1) := by decide +kernel
theorem dX9_count_150 : decode cX9_count 150 = .ok (.ireturn, 1) := by decide +kernel
theorem dX9_count_151 : decode cX9_count 151 = .ok (.aload_n 0, 1) := by decide +kernel
theorem dX9_count_152 : decode cX9_count 152 = .ok (.getfield 10, 3) := by decide +kernel
theorem dX9_count_155 : decode cX9_count 155 = .ok (.getfield 132, 3) := by decide +kernel
theorem dX9_count_158 : decode cX9_count 158 = .ok (.iconst 2, 1) := by decide +kernel
theorem dX9_count_159 : decode cX9_count 159 = .ok (.iaload, 1) := by decide +kernel
theorem dX9_count_160 : decode cX9_count 160 = .ok (.ireturn, 1) := by decide +kernel
theorem dX9_count_161 : decode cX9_count 161 = .ok (.aload_n 0, 1) := by decide +kernel
theorem dX9_count_162 : decode cX9_count 162 = .ok (.getfield 10, 3) := by decide +kernel
theorem dX9_count_165 : decode cX9_count 165 = .ok (.getfield 132, 3) := by decide +kernel
theorem dX9_count_168 : decode cX9_count 168 = .ok (.iconst 3, 1) := by decide +kernel
theorem dX9_count_169 : decode cX9_count 169 = .ok (.iaload, 1) := by decide +kernel
theorem dX9_count_170 : decode cX9_count 170 = .ok (.ireturn, 1) := by decide +kernel
theorem dX9_count_171 : decode cX9_count 171 = .ok (.aload_n 0, 1) := by decide +kernel
theorem dX9_count_172 : decode cX9_count 172 = .ok (.getfield 10, 3) := by decide +kernel
theorem dX9_count_175 : decode cX9_count 175 = .ok (.invokevirtual 135, 3) := by decide +kernel
theorem dX9_count_178 : decode cX9_count 178 = .ok (.ireturn, 1) := by decide +kernel
theorem dX9_count_179 : decode cX9_count 179 = .ok (.aload_n 0, 1) := by decide +kernel
theorem dX9_count_180 : decode cX9_count 180 = .ok (.getfield 10, 3) := by decide +kernel
theorem dX9_count_183 : decode cX9_count 183 = .ok (.getfield 138, 3) := by decide +kernel
theorem dX9_count_186 : decode cX9_count 186 = .ok (.invokestatic 141, 3) := by decide +kernel
theorem dX9_count_189 : decode cX9_count 189 = .ok (.ireturn, 1) := by decide +kernel
theorem dX9_count_190 : decode cX9_count 190 = .ok (.aload_n 0, 1) := by decide +kernel
theorem dX9_count_191 : decode cX9_count 191 = .ok (.getfield 10, 3) := by decide +kernel
theorem dX9_count_194 : decode cX9_count 194 = .ok (.getfield 147, 3) := by decide +kernel
theorem dX9_count_197 : decode cX9_count 197 = .ok (.invokestatic 151, 3) := by decide +kernel
theorem dX9_count_200 : decode cX9_count 200 = .ok (.ireturn, 1) := by decide +kernel
theorem dX9_count_201 : decode cX9_count 201 = .ok (.aload_n 0, 1) := by decide +kernel
theorem dX9_count_202 : decode cX9_count 202 = .ok (.getfield 22, 3) := by decide +kernel
theorem dX9_count_205 : decode cX9_count 205 = .ok (.getfield 156, 3) := by decide +kernel
theorem dX9_count_208 : decode cX9_count 208 = .ok (.ireturn, 1) := by decide +kernel
theorem dX9_setting_0 : decode cX9_setting 0 = .ok (.iload_n 1, 1) := by decide +kernel
theorem dX9_setting_1 : decode cX9_setting 1 = .ok (.iconst 0, 1) := by decide +kernel
theorem dX9_setting_2 : decode cX9_setting 2 = .ok (.iconst 5, 1) := by decide +kernel
theorem dX9_setting_3 : decode cX9_setting 3 = .ok (.invokestatic 100, 3) := by decide +kernel
theorem dX9_setting_6 : decode cX9_setting 6 = .ok (.aload_n 0, 1) := by decide +kernel
theorem dX9_setting_7 : decode cX9_setting 7 = .ok (.getfield 10, 3) := by decide +kernel
theorem dX9_setting_10 : decode cX9_setting 10 = .ok (.getfield 129, 3) := by decide +kernel
theorem dX9_setting_13 : decode cX9_setting 13 = .ok (.iload_n 1, 1) := by decide +kernel
theorem dX9_setting_14 : decode cX9_setting 14 = .ok (.iaload, 1) := by decide +kernel
theorem dX9_setting_15 : decode cX9_setting 15 = .ok (.ireturn, 1) := by decide +kernel
theorem dX9_cell_0 : decode cX9_cell 0 = .ok (.aload_n 0, 1) := by decide +kernel
theorem dX9_cell_1 : decode cX9_cell 1 = .ok (.iload_n 1, 1) := by decide +kernel
theorem dX9_cell_2 : decode cX9_cell 2 = .ok (.invokevirtual 157, 3) := by decide +kernel
theorem dX9_cell_5 : decode cX9_cell 5 = .ok (.iload_n 2, 1) := by decide +kernel
theorem dX9_cell_6 : decode cX9_cell 6 = .ok (.iconst 0, 1) := by decide +kernel
theorem dX9_cell_7 : decode cX9_cell 7 = .ok (.bipush 8, 2) := by decide +kernel
theorem dX9_cell_9 : decode cX9_cell 9 = .ok (.invokestatic 100, 3) := by decide +kernel
theorem dX9_cell_12 : decode cX9_cell 12 = .ok (.iload_n 2, 1) := by decide +kernel
theorem dX9_cell_13 : decode cX9_cell 13 = .ok (.tableswitch 141 0 7 #[47, 56, 65, 75, 85, 102, 111, 132], 47) := by decide +kernel
theorem dX9_cell_60 : decode cX9_cell 60 = .ok (.aload_n 0, 1) := by decide +kernel
theorem dX9_cell_61 : decode cX9_cell 61 = .ok (.getfield 10, 3) := by decide +kernel
theorem dX9_cell_64 : decode cX9_cell 64 = .ok (.iload_n 1, 1) := by decide +kernel
theorem dX9_cell_65 : decode cX9_cell 65 = .ok (.invokevirtual 160, 3) := by decide +kernel
theorem dX9_cell_68 : decode cX9_cell 68 = .ok (.ireturn, 1) := by decide +kernel
theorem dX9_cell_69 : decode cX9_cell 69 = .ok (.aload_n 0, 1) := by decide +kernel
theorem dX9_cell_70 : decode cX9_cell 70 = .ok (.getfield 10, 3) := by decide +kernel
theorem dX9_cell_73 : decode cX9_cell 73 = .ok (.iload_n 1, 1) := by decide +kernel
theorem dX9_cell_74 : decode cX9_cell 74 = .ok (.invokevirtual 163, 3) := by decide +kernel
theorem dX9_cell_77 : decode cX9_cell 77 = .ok (.ireturn, 1) := by decide +kernel
theorem dX9_cell_78 : decode cX9_cell 78 = .ok (.aload_n 0, 1) := by decide +kernel
theorem dX9_cell_79 : decode cX9_cell 79 = .ok (.getfield 10, 3) := by decide +kernel
theorem dX9_cell_82 : decode cX9_cell 82 = .ok (.getfield 166, 3) := by decide +kernel
theorem dX9_cell_85 : decode cX9_cell 85 = .ok (.iload_n 1, 1) := by decide +kernel
theorem dX9_cell_86 : decode cX9_cell 86 = .ok (.iaload, 1) := by decide +kernel
theorem dX9_cell_87 : decode cX9_cell 87 = .ok (.ireturn, 1) := by decide +kernel
theorem dX9_cell_88 : decode cX9_cell 88 = .ok (.aload_n 0, 1) := by decide +kernel
theorem dX9_cell_89 : decode cX9_cell 89 = .ok (.getfield 10, 3) := by decide +kernel
theorem dX9_cell_92 : decode cX9_cell 92 = .ok (.getfield 169, 3) := by decide +kernel
theorem dX9_cell_95 : decode cX9_cell 95 = .ok (.iload_n 1, 1) := by decide +kernel
theorem dX9_cell_96 : decode cX9_cell 96 = .ok (.iaload, 1) := by decide +kernel
theorem dX9_cell_97 : decode cX9_cell 97 = .ok (.ireturn, 1) := by decide +kernel
theorem dX9_cell_98 : decode cX9_cell 98 = .ok (.aload_n 0, 1) := by decide +kernel
theorem dX9_cell_99 : decode cX9_cell 99 = .ok (.getfield 10, 3) := by decide +kernel
theorem dX9_cell_102 : decode cX9_cell 102 = .ok (.iload_n 1, 1) := by decide +kernel
theorem dX9_cell_103 : decode cX9_cell 103 = .ok (.invokevirtual 172, 3) := by decide +kernel
theorem dX9_cell_106 : decode cX9_cell 106 = .ok (.ifCond .eq 7, 3) := by decide +kernel
theorem dX9_cell_109 : decode cX9_cell 109 = .ok (.iconst 1, 1) := by decide +kernel
theorem dX9_cell_110 : decode cX9_cell 110 = .ok (.goto 4, 3) := by decide +kernel
theorem dX9_cell_113 : decode cX9_cell 113 = .ok (.iconst 0, 1) := by decide +kernel
theorem dX9_cell_114 : decode cX9_cell 114 = .ok (.ireturn, 1) := by decide +kernel
theorem dX9_cell_115 : decode cX9_cell 115 = .ok (.aload_n 0, 1) := by decide +kernel
theorem dX9_cell_116 : decode cX9_cell 116 = .ok (.getfield 10, 3) := by decide +kernel
theorem dX9_cell_119 : decode cX9_cell 119 = .ok (.iload_n 1, 1) := by decide +kernel
theorem dX9_cell_120 : decode cX9_cell 120 = .ok (.invokevirtual 176, 3) := by decide +kernel
theorem dX9_cell_123 : decode cX9_cell 123 = .ok (.ireturn, 1) := by decide +kernel
theorem dX9_cell_124 : decode cX9_cell 124 = .ok (.aload_n 0, 1) := by decide +kernel
theorem dX9_cell_125 : decode cX9_cell 125 = .ok (.getfield 10, 3) := by decide +kernel
theorem dX9_cell_128 : decode cX9_cell 128 = .ok (.getfield 110, 3) := by decide +kernel
theorem dX9_cell_131 : decode cX9_cell 131 = .ok (.getfield 179, 3) := by decide +kernel
theorem dX9_cell_134 : decode cX9_cell 134 = .ok (.aload_n 0, 1) := by decide +kernel
theorem dX9_cell_135 : decode cX9_cell 135 = .ok (.getfield 10, 3) := by decide +kernel
theorem dX9_cell_138 : decode cX9_cell 138 = .ok (.iload_n 1, 1) := by decide +kernel
theorem dX9_cell_139 : decode cX9_cell 139 = .ok (.iconst (-1), 1) := by decide +kernel
theorem dX9_cell_140 : decode cX9_cell 140 = .ok (.invokevirtual 182, 3) := by decide +kernel
theorem dX9_cell_143 : decode cX9_cell 143 = .ok (.iaload, 1) := by decide +kernel
theorem dX9_cell_144 : decode cX9_cell 144 = .ok (.ireturn, 1) := by decide +kernel
theorem dX9_cell_145 : decode cX9_cell 145 = .ok (.aload_n 0, 1) := by decide +kernel
theorem dX9_cell_146 : decode cX9_cell 146 = .ok (.getfield 10, 3) := by decide +kernel
theorem dX9_cell_149 : decode cX9_cell 149 = .ok (.iload_n 1, 1) := by decide +kernel
theorem dX9_cell_150 : decode cX9_cell 150 = .ok (.invokevirtual 186, 3) := by decide +kernel
theorem dX9_cell_153 : decode cX9_cell 153 = .ok (.ireturn, 1) := by decide +kernel
theorem dX9_cell_154 : decode cX9_cell 154 = .ok (.aload_n 0, 1) := by decide +kernel
theorem dX9_cell_155 : decode cX9_cell 155 = .ok (.getfield 10, 3) := by decide +kernel
theorem dX9_cell_158 : decode cX9_cell 158 = .ok (.iload_n 1, 1) := by decide +kernel
theorem dX9_cell_159 : decode cX9_cell 159 = .ok (.invokevirtual 189, 3) := by decide +kernel
theorem dX9_cell_162 : decode cX9_cell 162 = .ok (.ireturn, 1) := by decide +kernel
theorem dX9_worn_0 : decode cX9_worn 0 = .ok (.aload_n 0, 1) := by decide +kernel
theorem dX9_worn_1 : decode cX9_worn 1 = .ok (.iload_n 1, 1) := by decide +kernel
theorem dX9_worn_2 : decode cX9_worn 2 = .ok (.invokevirtual 157, 3) := by decide +kernel
theorem dX9_worn_5 : decode cX9_worn 5 = .ok (.aload_n 0, 1) := by decide +kernel
theorem dX9_worn_6 : decode cX9_worn 6 = .ok (.getfield 10, 3) := by decide +kernel
theorem dX9_worn_9 : decode cX9_worn 9 = .ok (.getfield 192, 3) := by decide +kernel
theorem dX9_worn_12 : decode cX9_worn 12 = .ok (.iload_n 1, 1) := by decide +kernel
theorem dX9_worn_13 : decode cX9_worn 13 = .ok (.laload, 1) := by decide +kernel
theorem dX9_worn_14 : decode cX9_worn 14 = .ok (.lreturn, 1) := by decide +kernel
theorem dX9_capacity_0 : decode cX9_capacity 0 = .ok (.aload_n 0, 1) := by decide +kernel
theorem dX9_capacity_1 : decode cX9_capacity 1 = .ok (.iload_n 1, 1) := by decide +kernel
theorem dX9_capacity_2 : decode cX9_capacity 2 = .ok (.invokevirtual 157, 3) := by decide +kernel
theorem dX9_capacity_5 : decode cX9_capacity 5 = .ok (.aload_n 0, 1) := by decide +kernel
theorem dX9_capacity_6 : decode cX9_capacity 6 = .ok (.getfield 10, 3) := by decide +kernel
theorem dX9_capacity_9 : decode cX9_capacity 9 = .ok (.aload_n 0, 1) := by decide +kernel
theorem dX9_capacity_10 : decode cX9_capacity 10 = .ok (.getfield 10, 3) := by decide +kernel
theorem dX9_capacity_13 : decode cX9_capacity 13 = .ok (.iload_n 1, 1) := by decide +kernel
theorem dX9_capacity_14 : decode cX9_capacity 14 = .ok (.invokevirtual 176, 3) := by decide +kernel
theorem dX9_capacity_17 : decode cX9_capacity 17 = .ok (.invokevirtual 196, 3) := by decide +kernel
theorem dX9_capacity_20 : decode cX9_capacity 20 = .ok (.lreturn, 1) := by decide +kernel
theorem dX9_layer_0 : decode cX9_layer 0 = .ok (.aload_n 0, 1) := by decide +kernel
theorem dX9_layer_1 : decode cX9_layer 1 = .ok (.iload_n 1, 1) := by decide +kernel
theorem dX9_layer_2 : decode cX9_layer 2 = .ok (.invokevirtual 157, 3) := by decide +kernel
theorem dX9_layer_5 : decode cX9_layer 5 = .ok (.aload_n 0, 1) := by decide +kernel
theorem dX9_layer_6 : decode cX9_layer 6 = .ok (.getfield 10, 3) := by decide +kernel
theorem dX9_layer_9 : decode cX9_layer 9 = .ok (.iload_n 1, 1) := by decide +kernel
theorem dX9_layer_10 : decode cX9_layer 10 = .ok (.iconst (-1), 1) := by decide +kernel
theorem dX9_layer_11 : decode cX9_layer 11 = .ok (.invokevirtual 182, 3) := by decide +kernel
theorem dX9_layer_14 : decode cX9_layer 14 = .ok (.istore 4, 2) := by decide +kernel
theorem dX9_layer_16 : decode cX9_layer 16 = .ok (.iload_n 2, 1) := by decide +kernel
theorem dX9_layer_17 : decode cX9_layer 17 = .ok (.aload_n 0, 1) := by decide +kernel
theorem dX9_layer_18 : decode cX9_layer 18 = .ok (.getfield 10, 3) := by decide +kernel
theorem dX9_layer_21 : decode cX9_layer 21 = .ok (.getfield 110, 3) := by decide +kernel
theorem dX9_layer_24 : decode cX9_layer 24 = .ok (.getfield 179, 3) := by decide +kernel
theorem dX9_layer_27 : decode cX9_layer 27 = .ok (.iload 4, 2) := by decide +kernel
theorem dX9_layer_29 : decode cX9_layer 29 = .ok (.iaload, 1) := by decide +kernel
theorem dX9_layer_30 : decode cX9_layer 30 = .ok (.invokestatic 200, 3) := by decide +kernel
theorem dX9_layer_33 : decode cX9_layer 33 = .ok (.iload_n 3, 1) := by decide +kernel
theorem dX9_layer_34 : decode cX9_layer 34 = .ok (.iconst 0, 1) := by decide +kernel
theorem dX9_layer_35 : decode cX9_layer 35 = .ok (.iconst 1, 1) := by decide +kernel
theorem dX9_layer_36 : decode cX9_layer 36 = .ok (.invokestatic 100, 3) := by decide +kernel
theorem dX9_layer_39 : decode cX9_layer 39 = .ok (.iload_n 3, 1) := by decide +kernel
theorem dX9_layer_40 : decode cX9_layer 40 = .ok (.ifCond .ne 19, 3) := by decide +kernel
theorem dX9_layer_43 : decode cX9_layer 43 = .ok (.aload_n 0, 1) := by decide +kernel
theorem dX9_layer_44 : decode cX9_layer 44 = .ok (.getfield 10, 3) := by decide +kernel
theorem dX9_layer_47 : decode cX9_layer 47 = .ok (.getfield 110, 3) := by decide +kernel
theorem dX9_layer_50 : decode cX9_layer 50 = .ok (.iload 4, 2) := by decide +kernel
theorem dX9_layer_52 : decode cX9_layer 52 = .ok (.iload_n 2, 1) := by decide +kernel
theorem dX9_layer_53 : decode cX9_layer 53 = .ok (.invokevirtual 204, 3) := by decide +kernel
theorem dX9_layer_56 : decode cX9_layer 56 = .ok (.goto 16, 3) := by decide +kernel
theorem dX9_layer_59 : decode cX9_layer 59 = .ok (.aload_n 0, 1) := by decide +kernel
theorem dX9_layer_60 : decode cX9_layer 60 = .ok (.getfield 10, 3) := by decide +kernel
theorem dX9_layer_63 : decode cX9_layer 63 = .ok (.getfield 110, 3) := by decide +kernel
theorem dX9_layer_66 : decode cX9_layer 66 = .ok (.iload 4, 2) := by decide +kernel
theorem dX9_layer_68 : decode cX9_layer 68 = .ok (.iload_n 2, 1) := by decide +kernel
theorem dX9_layer_69 : decode cX9_layer 69 = .ok (.invokevirtual 207, 3) := by decide +kernel
theorem dX9_layer_72 : decode cX9_layer 72 = .ok (.ireturn, 1) := by decide +kernel
theorem dX9_core_0 : decode cX9_core 0 = .ok (.iload_n 1, 1) := by decide +kernel
theorem dX9_core_1 : decode cX9_core 1 = .ok (.aload_n 0, 1) := by decide +kernel
theorem dX9_core_2 : decode cX9_core 2 = .ok (.getfield 10, 3) := by decide +kernel
theorem dX9_core_5 : decode cX9_core 5 = .ok (.getfield 110, 3) := by decide +kernel
theorem dX9_core_8 : decode cX9_core 8 = .ok (.getfield 114, 3) := by decide +kernel
theorem dX9_core_11 : decode cX9_core 11 = .ok (.invokestatic 200, 3) := by decide +kernel
theorem dX9_core_14 : decode cX9_core 14 = .ok (.iload_n 2, 1) := by decide +kernel
theorem dX9_core_15 : decode cX9_core 15 = .ok (.iconst 0, 1) := by decide +kernel
theorem dX9_core_16 : decode cX9_core 16 = .ok (.iconst 2, 1) := by decide +kernel
theorem dX9_core_17 : decode cX9_core 17 = .ok (.invokestatic 100, 3) := by decide +kernel
theorem dX9_core_20 : decode cX9_core 20 = .ok (.iload_n 2, 1) := by decide +kernel
theorem dX9_core_21 : decode cX9_core 21 = .ok (.lookupswitch 53 #[(0, 27), (1, 40)], 27) := by decide +kernel
theorem dX9_core_48 : decode cX9_core 48 = .ok (.aload_n 0, 1) := by decide +kernel
theorem dX9_core_49 : decode cX9_core 49 = .ok (.getfield 10, 3) := by decide +kernel
theorem dX9_core_52 : decode cX9_core 52 = .ok (.getfield 110, 3) := by decide +kernel
theorem dX9_core_55 : decode cX9_core 55 = .ok (.getfield 210, 3) := by decide +kernel
theorem dX9_core_58 : decode cX9_core 58 = .ok (.iload_n 1, 1) := by decide +kernel
theorem dX9_core_59 : decode cX9_core 59 = .ok (.iaload, 1) := by decide +kernel
theorem dX9_core_60 : decode cX9_core 60 = .ok (.ireturn, 1) := by decide +kernel
theorem dX9_core_61 : decode cX9_core 61 = .ok (.aload_n 0, 1) := by decide +kernel
theorem dX9_core_62 : decode cX9_core 62 = .ok (.getfield 10, 3) := by decide +kernel
theorem dX9_core_65 : decode cX9_core 65 = .ok (.getfield 110, 3) := by decide +kernel
theorem dX9_core_68 : decode cX9_core 68 = .ok (.getfield 179, 3) := by decide +kernel
theorem dX9_core_71 : decode cX9_core 71 = .ok (.iload_n 1, 1) := by decide +kernel
theorem dX9_core_72 : decode cX9_core 72 = .ok (.iaload, 1) := by decide +kernel
theorem dX9_core_73 : decode cX9_core 73 = .ok (.ireturn, 1) := by decide +kernel
theorem dX9_core_74 : decode cX9_core 74 = .ok (.aload_n 0, 1) := by decide +kernel
theorem dX9_core_75 : decode cX9_core 75 = .ok (.getfield 10, 3) := by decide +kernel
theorem dX9_core_78 : decode cX9_core 78 = .ok (.iload_n 1, 1) := by decide +kernel
theorem dX9_core_79 : decode cX9_core 79 = .ok (.invokevirtual 212, 3) := by decide +kernel
theorem dX9_core_82 : decode cX9_core 82 = .ok (.ireturn, 1) := by decide +kernel
theorem dX9_load_0 : decode cX9_load 0 = .ok (.iload_n 1, 1) := by decide +kernel
theorem dX9_load_1 : decode cX9_load 1 = .ok (.aload_n 0, 1) := by decide +kernel
theorem dX9_load_2 : decode cX9_load 2 = .ok (.getfield 10, 3) := by decide +kernel
theorem dX9_load_5 : decode cX9_load 5 = .ok (.getfield 119, 3) := by decide +kernel
theorem dX9_load_8 : decode cX9_load 8 = .ok (.getfield 123, 3) := by decide +kernel
theorem dX9_load_11 : decode cX9_load 11 = .ok (.invokestatic 200, 3) := by decide +kernel
theorem dX9_load_14 : decode cX9_load 14 = .ok (.iload_n 2, 1) := by decide +kernel
theorem dX9_load_15 : decode cX9_load 15 = .ok (.iconst 0, 1) := by decide +kernel
theorem dX9_load_16 : decode cX9_load 16 = .ok (.bipush 6, 2) := by decide +kernel
theorem dX9_load_18 : decode cX9_load 18 = .ok (.invokestatic 100, 3) := by decide +kernel
theorem dX9_load_21 : decode cX9_load 21 = .ok (.iload_n 2, 1) := by decide +kernel
theorem dX9_load_22 : decode cX9_load 22 = .ok (.bipush 6, 2) := by decide +kernel
theorem dX9_load_24 : decode cX9_load 24 = .ok (.if_icmp .ne 15, 3) := by decide +kernel
theorem dX9_load_27 : decode cX9_load 27 = .ok (.aload_n 0, 1) := by decide +kernel
theorem dX9_load_28 : decode cX9_load 28 = .ok (.getfield 10, 3) := by decide +kernel
theorem dX9_load_31 : decode cX9_load 31 = .ok (.iload_n 1, 1) := by decide +kernel
theorem dX9_load_32 : decode cX9_load 32 = .ok (.iconst (-1), 1) := by decide +kernel
theorem dX9_load_33 : decode cX9_load 33 = .ok (.invokevirtual 215, 3) := by decide +kernel
theorem dX9_load_36 : decode cX9_load 36 = .ok (.goto 15, 3) := by decide +kernel
theorem dX9_load_39 : decode cX9_load 39 = .ok (.aload_n 0, 1) := by decide +kernel
theorem dX9_load_40 : decode cX9_load 40 = .ok (.getfield 10, 3) := by decide +kernel
theorem dX9_load_43 : decode cX9_load 43 = .ok (.getfield 119, 3) := by decide +kernel
theorem dX9_load_46 : decode cX9_load 46 = .ok (.iload_n 1, 1) := by decide +kernel
theorem dX9_load_47 : decode cX9_load 47 = .ok (.iload_n 2, 1) := by decide +kernel
theorem dX9_load_48 : decode cX9_load 48 = .ok (.invokevirtual 218, 3) := by decide +kernel
theorem dX9_load_51 : decode cX9_load 51 = .ok (.ireturn, 1) := by decide +kernel
theorem dX9_base_0 : decode cX9_base 0 = .ok (.aload_n 0, 1) := by decide +kernel
theorem dX9_base_1 : decode cX9_base 1 = .ok (.iload_n 1, 1) := by decide +kernel
theorem dX9_base_2 : decode cX9_base 2 = .ok (.invokevirtual 157, 3) := by decide +kernel
theorem dX9_base_5 : decode cX9_base 5 = .ok (.aload_n 0, 1) := by decide +kernel
theorem dX9_base_6 : decode cX9_base 6 = .ok (.getfield 10, 3) := by decide +kernel
theorem dX9_base_9 : decode cX9_base 9 = .ok (.iload_n 1, 1) := by decide +kernel
theorem dX9_base_10 : decode cX9_base 10 = .ok (.invokevirtual 221, 3) := by decide +kernel
theorem dX9_base_13 : decode cX9_base 13 = .ok (.lreturn, 1) := by decide +kernel
theorem dX9_baseOf_0 : decode cX9_baseOf 0 = .ok (.iload_n 1, 1) := by decide +kernel
theorem dX9_baseOf_1 : decode cX9_baseOf 1 = .ok (.aload_n 0, 1) := by decide +kernel
theorem dX9_baseOf_2 : decode cX9_baseOf 2 = .ok (.getfield 10, 3) := by decide +kernel
theorem dX9_baseOf_5 : decode cX9_baseOf 5 = .ok (.getfield 119, 3) := by decide +kernel
theorem dX9_baseOf_8 : decode cX9_baseOf 8 = .ok (.getfield 123, 3) := by decide +kernel
theorem dX9_baseOf_11 : decode cX9_baseOf 11 = .ok (.invokestatic 200, 3) := by decide +kernel
theorem dX9_baseOf_14 : decode cX9_baseOf 14 = .ok (.aload_n 0, 1) := by decide +kernel
theorem dX9_baseOf_15 : decode cX9_baseOf 15 = .ok (.iload_n 2, 1) := by decide +kernel
theorem dX9_baseOf_16 : decode cX9_baseOf 16 = .ok (.invokevirtual 157, 3) := by decide +kernel
theorem dX9_baseOf_19 : decode cX9_baseOf 19 = .ok (.aload_n 0, 1) := by decide +kernel
theorem dX9_baseOf_20 : decode cX9_baseOf 20 = .ok (.getfield 10, 3) := by decide +kernel
theorem dX9_baseOf_23 : decode cX9_baseOf 23 = .ok (.iload_n 1, 1) := by decide +kernel
theorem dX9_baseOf_24 : decode cX9_baseOf 24 = .ok (.iload_n 2, 1) := by decide +kernel
theorem dX9_baseOf_25 : decode cX9_baseOf 25 = .ok (.invokevirtual 224, 3) := by decide +kernel
theorem dX9_baseOf_28 : decode cX9_baseOf 28 = .ok (.lreturn, 1) := by decide +kernel
theorem dX9_heaviest_0 : decode cX9_heaviest 0 = .ok (.aload_n 0, 1) := by decide +kernel
theorem dX9_heaviest_1 : decode cX9_heaviest 1 = .ok (.iload_n 1, 1) := by decide +kernel
theorem dX9_heaviest_2 : decode cX9_heaviest 2 = .ok (.invokevirtual 157, 3) := by decide +kernel
theorem dX9_heaviest_5 : decode cX9_heaviest 5 = .ok (.iconst (-1), 1) := by decide +kernel
theorem dX9_heaviest_6 : decode cX9_heaviest 6 = .ok (.istore_n 2, 1) := by decide +kernel
theorem dX9_heaviest_7 : decode cX9_heaviest 7 = .ok (.lconst 0, 1) := by decide +kernel
theorem dX9_heaviest_8 : decode cX9_heaviest 8 = .ok (.lstore_n 3, 1) := by decide +kernel
theorem dX9_heaviest_9 : decode cX9_heaviest 9 = .ok (.iconst 0, 1) := by decide +kernel
theorem dX9_heaviest_10 : decode cX9_heaviest 10 = .ok (.istore 5, 2) := by decide +kernel
theorem dX9_heaviest_12 : decode cX9_heaviest 12 = .ok (.iload 5, 2) := by decide +kernel
theorem dX9_heaviest_14 : decode cX9_heaviest 14 = .ok (.aload_n 0, 1) := by decide +kernel
theorem dX9_heaviest_15 : decode cX9_heaviest 15 = .ok (.getfield 10, 3) := by decide +kernel
theorem dX9_heaviest_18 : decode cX9_heaviest 18 = .ok (.getfield 119, 3) := by decide +kernel
theorem dX9_heaviest_21 : decode cX9_heaviest 21 = .ok (.getfield 123, 3) := by decide +kernel
theorem dX9_heaviest_24 : decode cX9_heaviest 24 = .ok (.if_icmp .ge 34, 3) := by decide +kernel
theorem dX9_heaviest_27 : decode cX9_heaviest 27 = .ok (.aload_n 0, 1) := by decide +kernel
theorem dX9_heaviest_28 : decode cX9_heaviest 28 = .ok (.getfield 10, 3) := by decide +kernel
theorem dX9_heaviest_31 : decode cX9_heaviest 31 = .ok (.iload 5, 2) := by decide +kernel
theorem dX9_heaviest_33 : decode cX9_heaviest 33 = .ok (.iload_n 1, 1) := by decide +kernel
theorem dX9_heaviest_34 : decode cX9_heaviest 34 = .ok (.invokevirtual 224, 3) := by decide +kernel
theorem dX9_heaviest_37 : decode cX9_heaviest 37 = .ok (.lstore 6, 2) := by decide +kernel
theorem dX9_heaviest_39 : decode cX9_heaviest 39 = .ok (.lload 6, 2) := by decide +kernel
theorem dX9_heaviest_41 : decode cX9_heaviest 41 = .ok (.lload_n 3, 1) := by decide +kernel
theorem dX9_heaviest_42 : decode cX9_heaviest 42 = .ok (.lcmp, 1) := by decide +kernel
theorem dX9_heaviest_43 : decode cX9_heaviest 43 = .ok (.ifCond .le 9, 3) := by decide +kernel
theorem dX9_heaviest_46 : decode cX9_heaviest 46 = .ok (.lload 6, 2) := by decide +kernel
theorem dX9_heaviest_48 : decode cX9_heaviest 48 = .ok (.lstore_n 3, 1) := by decide +kernel
theorem dX9_heaviest_49 : decode cX9_heaviest 49 = .ok (.iload 5, 2) := by decide +kernel
theorem dX9_heaviest_51 : decode cX9_heaviest 51 = .ok (.istore_n 2, 1) := by decide +kernel
theorem dX9_heaviest_52 : decode cX9_heaviest 52 = .ok (.iinc 5 1, 3) := by decide +kernel
theorem dX9_heaviest_55 : decode cX9_heaviest 55 = .ok (.goto (-43), 3) := by decide +kernel
theorem dX9_heaviest_58 : decode cX9_heaviest 58 = .ok (.iload_n 2, 1) := by decide +kernel
theorem dX9_heaviest_59 : decode cX9_heaviest 59 = .ok (.ireturn, 1) := by decide +kernel
theorem dX9_units_0 : decode cX9_units 0 = .ok (.aload_n 0, 1) := by decide +kernel
theorem dX9_units_1 : decode cX9_units 1 = .ok (.iload_n 1, 1) := by decide +kernel
theorem dX9_units_2 : decode cX9_units 2 = .ok (.invokevirtual 157, 3) := by decide +kernel
theorem dX9_units_5 : decode cX9_units 5 = .ok (.aload_n 0, 1) := by decide +kernel
theorem dX9_units_6 : decode cX9_units 6 = .ok (.getfield 10, 3) := by decide +kernel
theorem dX9_units_9 : decode cX9_units 9 = .ok (.iload_n 1, 1) := by decide +kernel
theorem dX9_units_10 : decode cX9_units 10 = .ok (.invokevirtual 221, 3) := by decide +kernel
theorem dX9_units_13 : decode cX9_units 13 = .ok (.aload_n 0, 1) := by decide +kernel
theorem dX9_units_14 : decode cX9_units 14 = .ok (.getfield 10, 3) := by decide +kernel
theorem dX9_units_17 : decode cX9_units 17 = .ok (.getfield 166, 3) := by decide +kernel
theorem dX9_units_20 : decode cX9_units 20 = .ok (.iload_n 1, 1) := by decide +kernel
theorem dX9_units_21 : decode cX9_units 21 = .ok (.iaload, 1) := by decide +kernel
theorem dX9_units_22 : decode cX9_units 22 = .ok (.invokestatic 228, 3) := by decide +kernel
theorem dX9_units_25 : decode cX9_units 25 = .ok (.lreturn, 1) := by decide +kernel
theorem dX9_failsBy_0 : decode cX9_failsBy 0 = .ok (.aload_n 0, 1) := by decide +kernel
theorem dX9_failsBy_1 : decode cX9_failsBy 1 = .ok (.iload_n 1, 1) := by decide +kernel
theorem dX9_failsBy_2 : decode cX9_failsBy 2 = .ok (.invokevirtual 157, 3) := by decide +kernel
theorem dX9_failsBy_5 : decode cX9_failsBy 5 = .ok (.aload_n 0, 1) := by decide +kernel
theorem dX9_failsBy_6 : decode cX9_failsBy 6 = .ok (.getfield 10, 3) := by decide +kernel
theorem dX9_failsBy_9 : decode cX9_failsBy 9 = .ok (.iload_n 1, 1) := by decide +kernel
theorem dX9_failsBy_10 : decode cX9_failsBy 10 = .ok (.invokevirtual 232, 3) := by decide +kernel
theorem dX9_failsBy_13 : decode cX9_failsBy 13 = .ok (.ireturn, 1) := by decide +kernel
theorem dX9_yearsLeft_0 : decode cX9_yearsLeft 0 = .ok (.aload_n 0, 1) := by decide +kernel
theorem dX9_yearsLeft_1 : decode cX9_yearsLeft 1 = .ok (.iload_n 1, 1) := by decide +kernel
theorem dX9_yearsLeft_2 : decode cX9_yearsLeft 2 = .ok (.invokevirtual 157, 3) := by decide +kernel
theorem dX9_yearsLeft_5 : decode cX9_yearsLeft 5 = .ok (.aload_n 0, 1) := by decide +kernel
theorem dX9_yearsLeft_6 : decode cX9_yearsLeft 6 = .ok (.getfield 36, 3) := by decide +kernel
theorem dX9_yearsLeft_9 : decode cX9_yearsLeft 9 = .ok (.aload_n 0, 1) := by decide +kernel
theorem dX9_yearsLeft_10 : decode cX9_yearsLeft 10 = .ok (.getfield 10, 3) := by decide +kernel
theorem dX9_yearsLeft_13 : decode cX9_yearsLeft 13 = .ok (.iconst 0, 1) := by decide +kernel
theorem dX9_yearsLeft_14 : decode cX9_yearsLeft 14 = .ok (.iconst (-1), 1) := by decide +kernel
theorem dX9_yearsLeft_15 : decode cX9_yearsLeft 15 = .ok (.invokevirtual 235, 3) := by decide +kernel
theorem dX9_yearsLeft_18 : decode cX9_yearsLeft 18 = .ok (.aload_n 0, 1) := by decide +kernel
theorem dX9_yearsLeft_19 : decode cX9_yearsLeft 19 = .ok (.getfield 36, 3) := by decide +kernel
theorem dX9_yearsLeft_22 : decode cX9_yearsLeft 22 = .ok (.aload_n 0, 1) := by decide +kernel
theorem dX9_yearsLeft_23 : decode cX9_yearsLeft 23 = .ok (.getfield 10, 3) := by decide +kernel
theorem dX9_yearsLeft_26 : decode cX9_yearsLeft 26 = .ok (.iload_n 1, 1) := by decide +kernel
theorem dX9_yearsLeft_27 : decode cX9_yearsLeft 27 = .ok (.invokevirtual 239, 3) := by decide +kernel
theorem dX9_yearsLeft_30 : decode cX9_yearsLeft 30 = .ok (.invokestatic 243, 3) := by decide +kernel
theorem dX9_yearsLeft_33 : decode cX9_yearsLeft 33 = .ok (.ireturn, 1) := by decide +kernel
theorem dX9_nthCell_0 : decode cX9_nthCell 0 = .ok (.aload_n 0, 1) := by decide +kernel
theorem dX9_nthCell_1 : decode cX9_nthCell 1 = .ok (.getfield 10, 3) := by decide +kernel
theorem dX9_nthCell_4 : decode cX9_nthCell 4 = .ok (.invokevirtual 90, 3) := by decide +kernel
theorem dX9_nthCell_7 : decode cX9_nthCell 7 = .ok (.istore_n 2, 1) := by decide +kernel
theorem dX9_nthCell_8 : decode cX9_nthCell 8 = .ok (.iload_n 1, 1) := by decide +kernel
theorem dX9_nthCell_9 : decode cX9_nthCell 9 = .ok (.iload_n 2, 1) := by decide +kernel
theorem dX9_nthCell_10 : decode cX9_nthCell 10 = .ok (.invokestatic 200, 3) := by decide +kernel
theorem dX9_nthCell_13 : decode cX9_nthCell 13 = .ok (.aload_n 0, 1) := by decide +kernel
theorem dX9_nthCell_14 : decode cX9_nthCell 14 = .ok (.getfield 36, 3) := by decide +kernel
theorem dX9_nthCell_17 : decode cX9_nthCell 17 = .ok (.aload_n 0, 1) := by decide +kernel
theorem dX9_nthCell_18 : decode cX9_nthCell 18 = .ok (.getfield 10, 3) := by decide +kernel
theorem dX9_nthCell_21 : decode cX9_nthCell 21 = .ok (.iconst 0, 1) := by decide +kernel
theorem dX9_nthCell_22 : decode cX9_nthCell 22 = .ok (.iconst (-1), 1) := by decide +kernel
theorem dX9_nthCell_23 : decode cX9_nthCell 23 = .ok (.invokevirtual 235, 3) := by decide +kernel
theorem dX9_nthCell_26 : decode cX9_nthCell 26 = .ok (.iconst 0, 1) := by decide +kernel
theorem dX9_nthCell_27 : decode cX9_nthCell 27 = .ok (.istore_n 3, 1) := by decide +kernel
theorem dX9_nthCell_28 : decode cX9_nthCell 28 = .ok (.iload_n 3, 1) := by decide +kernel
theorem dX9_nthCell_29 : decode cX9_nthCell 29 = .ok (.iload_n 2, 1) := by decide +kernel
theorem dX9_nthCell_30 : decode cX9_nthCell 30 = .ok (.if_icmp .ge 45, 3) := by decide +kernel
theorem dX9_nthCell_33 : decode cX9_nthCell 33 = .ok (.aload_n 0, 1) := by decide +kernel
theorem dX9_nthCell_34 : decode cX9_nthCell 34 = .ok (.getfield 54, 3) := by decide +kernel
theorem dX9_nthCell_37 : decode cX9_nthCell 37 = .ok (.iload_n 3, 1) := by decide +kernel
theorem dX9_nthCell_38 : decode cX9_nthCell 38 = .ok (.aload_n 0, 1) := by decide +kernel
theorem dX9_nthCell_39 : decode cX9_nthCell 39 = .ok (.getfield 36, 3) := by decide +kernel
theorem dX9_nthCell_42 : decode cX9_nthCell 42 = .ok (.aload_n 0, 1) := by decide +kernel
theorem dX9_nthCell_43 : decode cX9_nthCell 43 = .ok (.getfield 10, 3) := by decide +kernel
theorem dX9_nthCell_46 : decode cX9_nthCell 46 = .ok (.iload_n 3, 1) := by decide +kernel
theorem dX9_nthCell_47 : decode cX9_nthCell 47 = .ok (.invokevirtual 239, 3) := by decide +kernel
theorem dX9_nthCell_50 : decode cX9_nthCell 50 = .ok (.sipush 2048, 3) := by decide +kernel
theorem dX9_nthCell_53 : decode cX9_nthCell 53 = .ok (.imul, 1) := by decide +kernel
theorem dX9_nthCell_54 : decode cX9_nthCell 54 = .ok (.aload_n 0, 1) := by decide +kernel
theorem dX9_nthCell_55 : decode cX9_nthCell 55 = .ok (.getfield 10, 3) := by decide +kernel
theorem dX9_nthCell_58 : decode cX9_nthCell 58 = .ok (.iload_n 3, 1) := by decide +kernel
theorem dX9_nthCell_59 : decode cX9_nthCell 59 = .ok (.invokevirtual 176, 3) := by decide +kernel
theorem dX9_nthCell_62 : decode cX9_nthCell 62 = .ok (.iadd, 1) := by decide +kernel
theorem dX9_nthCell_63 : decode cX9_nthCell 63 = .ok (.bipush 64, 2) := by decide +kernel
theorem dX9_nthCell_65 : decode cX9_nthCell 65 = .ok (.imul, 1) := by decide +kernel
theorem dX9_nthCell_66 : decode cX9_nthCell 66 = .ok (.iload_n 3, 1) := by decide +kernel
theorem dX9_nthCell_67 : decode cX9_nthCell 67 = .ok (.iadd, 1) := by decide +kernel
theorem dX9_nthCell_68 : decode cX9_nthCell 68 = .ok (.iastore, 1) := by decide +kernel
theorem dX9_nthCell_69 : decode cX9_nthCell 69 = .ok (.iinc 3 1, 3) := by decide +kernel
theorem dX9_nthCell_72 : decode cX9_nthCell 72 = .ok (.goto (-44), 3) := by decide +kernel
theorem dX9_nthCell_75 : decode cX9_nthCell 75 = .ok (.aload_n 0, 1) := by decide +kernel
theorem dX9_nthCell_76 : decode cX9_nthCell 76 = .ok (.iload_n 1, 1) := by decide +kernel
theorem dX9_nthCell_77 : decode cX9_nthCell 77 = .ok (.iload_n 2, 1) := by decide +kernel
theorem dX9_nthCell_78 : decode cX9_nthCell 78 = .ok (.invokevirtual 246, 3) := by decide +kernel
theorem dX9_nthCell_81 : decode cX9_nthCell 81 = .ok (.ireturn, 1) := by decide +kernel
theorem dX9_laneYears_0 : decode cX9_laneYears 0 = .ok (.iload_n 1, 1) := by decide +kernel
theorem dX9_laneYears_1 : decode cX9_laneYears 1 = .ok (.aload_n 0, 1) := by decide +kernel
theorem dX9_laneYears_2 : decode cX9_laneYears 2 = .ok (.getfield 10, 3) := by decide +kernel
theorem dX9_laneYears_5 : decode cX9_laneYears 5 = .ok (.getfield 107, 3) := by decide +kernel
theorem dX9_laneYears_8 : decode cX9_laneYears 8 = .ok (.invokestatic 200, 3) := by decide +kernel
theorem dX9_laneYears_11 : decode cX9_laneYears 11 = .ok (.aload_n 0, 1) := by decide +kernel
theorem dX9_laneYears_12 : decode cX9_laneYears 12 = .ok (.getfield 36, 3) := by decide +kernel
theorem dX9_laneYears_15 : decode cX9_laneYears 15 = .ok (.aload_n 0, 1) := by decide +kernel
theorem dX9_laneYears_16 : decode cX9_laneYears 16 = .ok (.getfield 10, 3) := by decide +kernel
theorem dX9_laneYears_19 : decode cX9_laneYears 19 = .ok (.iconst 0, 1) := by decide +kernel
theorem dX9_laneYears_20 : decode cX9_laneYears 20 = .ok (.iconst (-1), 1) := by decide +kernel
theorem dX9_laneYears_21 : decode cX9_laneYears 21 = .ok (.invokevirtual 235, 3) := by decide +kernel
theorem dX9_laneYears_24 : decode cX9_laneYears 24 = .ok (.aload_n 0, 1) := by decide +kernel
theorem dX9_laneYears_25 : decode cX9_laneYears 25 = .ok (.getfield 36, 3) := by decide +kernel
theorem dX9_laneYears_28 : decode cX9_laneYears 28 = .ok (.aload_n 0, 1) := by decide +kernel
theorem dX9_laneYears_29 : decode cX9_laneYears 29 = .ok (.getfield 10, 3) := by decide +kernel
theorem dX9_laneYears_32 : decode cX9_laneYears 32 = .ok (.iload_n 1, 1) := by decide +kernel
theorem dX9_laneYears_33 : decode cX9_laneYears 33 = .ok (.iload_n 1, 1) := by decide +kernel
theorem dX9_laneYears_34 : decode cX9_laneYears 34 = .ok (.invokevirtual 249, 3) := by decide +kernel
theorem dX9_laneYears_37 : decode cX9_laneYears 37 = .ok (.invokestatic 243, 3) := by decide +kernel
theorem dX9_laneYears_40 : decode cX9_laneYears 40 = .ok (.ireturn, 1) := by decide +kernel
theorem dX9_firstFailing_0 : decode cX9_firstFailing 0 = .ok (.iload_n 1, 1) := by decide +kernel
theorem dX9_firstFailing_1 : decode cX9_firstFailing 1 = .ok (.aload_n 0, 1) := by decide +kernel
theorem dX9_firstFailing_2 : decode cX9_firstFailing 2 = .ok (.getfield 10, 3) := by decide +kernel
theorem dX9_firstFailing_5 : decode cX9_firstFailing 5 = .ok (.getfield 107, 3) := by decide +kernel
theorem dX9_firstFailing_8 : decode cX9_firstFailing 8 = .ok (.invokestatic 200, 3) := by decide +kernel
theorem dX9_firstFailing_11 : decode cX9_firstFailing 11 = .ok (.aload_n 0, 1) := by decide +kernel
theorem dX9_firstFailing_12 : decode cX9_firstFailing 12 = .ok (.getfield 36, 3) := by decide +kernel
theorem dX9_firstFailing_15 : decode cX9_firstFailing 15 = .ok (.aload_n 0, 1) := by decide +kernel
theorem dX9_firstFailing_16 : decode cX9_firstFailing 16 = .ok (.getfield 10, 3) := by decide +kernel
theorem dX9_firstFailing_19 : decode cX9_firstFailing 19 = .ok (.iconst 0, 1) := by decide +kernel
theorem dX9_firstFailing_20 : decode cX9_firstFailing 20 = .ok (.iconst (-1), 1) := by decide +kernel
theorem dX9_firstFailing_21 : decode cX9_firstFailing 21 = .ok (.invokevirtual 235, 3) := by decide +kernel
theorem dX9_firstFailing_24 : decode cX9_firstFailing 24 = .ok (.iconst (-1), 1) := by decide +kernel
theorem dX9_firstFailing_25 : decode cX9_firstFailing 25 = .ok (.istore_n 2, 1) := by decide +kernel
theorem dX9_firstFailing_26 : decode cX9_firstFailing 26 = .ok (.bipush 61, 2) := by decide +kernel
theorem dX9_firstFailing_28 : decode cX9_firstFailing 28 = .ok (.istore_n 3, 1) := by decide +kernel
theorem dX9_firstFailing_29 : decode cX9_firstFailing 29 = .ok (.iconst 0, 1) := by decide +kernel
theorem dX9_firstFailing_30 : decode cX9_firstFailing 30 = .ok (.istore 4, 2) := by decide +kernel
theorem dX9_firstFailing_32 : decode cX9_firstFailing 32 = .ok (.iload 4, 2) := by decide +kernel
theorem dX9_firstFailing_34 : decode cX9_firstFailing 34 = .ok (.aload_n 0, 1) := by decide +kernel
theorem dX9_firstFailing_35 : decode cX9_firstFailing 35 = .ok (.getfield 10, 3) := by decide +kernel
theorem dX9_firstFailing_38 : decode cX9_firstFailing 38 = .ok (.getfield 104, 3) := by decide +kernel
theorem dX9_firstFailing_41 : decode cX9_firstFailing 41 = .ok (.if_icmp .ge 44, 3) := by decide +kernel
theorem dX9_firstFailing_44 : decode cX9_firstFailing 44 = .ok (.aload_n 0, 1) := by decide +kernel
theorem dX9_firstFailing_45 : decode cX9_firstFailing 45 = .ok (.getfield 36, 3) := by decide +kernel
theorem dX9_firstFailing_48 : decode cX9_firstFailing 48 = .ok (.aload_n 0, 1) := by decide +kernel
theorem dX9_firstFailing_49 : decode cX9_firstFailing 49 = .ok (.getfield 10, 3) := by decide +kernel
theorem dX9_firstFailing_52 : decode cX9_firstFailing 52 = .ok (.aload_n 0, 1) := by decide +kernel
theorem dX9_firstFailing_53 : decode cX9_firstFailing 53 = .ok (.getfield 10, 3) := by decide +kernel
theorem dX9_firstFailing_56 : decode cX9_firstFailing 56 = .ok (.iload 4, 2) := by decide +kernel
theorem dX9_firstFailing_58 : decode cX9_firstFailing 58 = .ok (.iload_n 1, 1) := by decide +kernel
theorem dX9_firstFailing_59 : decode cX9_firstFailing 59 = .ok (.invokevirtual 253, 3) := by decide +kernel
theorem dX9_firstFailing_62 : decode cX9_firstFailing 62 = .ok (.invokevirtual 239, 3) := by decide +kernel
theorem dX9_firstFailing_65 : decode cX9_firstFailing 65 = .ok (.istore 5, 2) := by decide +kernel
theorem dX9_firstFailing_67 : decode cX9_firstFailing 67 = .ok (.iload 5, 2) := by decide +kernel
theorem dX9_firstFailing_69 : decode cX9_firstFailing 69 = .ok (.iload_n 3, 1) := by decide +kernel
theorem dX9_firstFailing_70 : decode cX9_firstFailing 70 = .ok (.if_icmp .ge 9, 3) := by decide +kernel
theorem dX9_firstFailing_73 : decode cX9_firstFailing 73 = .ok (.iload 5, 2) := by decide +kernel
theorem dX9_firstFailing_75 : decode cX9_firstFailing 75 = .ok (.istore_n 3, 1) := by decide +kernel
theorem dX9_firstFailing_76 : decode cX9_firstFailing 76 = .ok (.iload 4, 2) := by decide +kernel
theorem dX9_firstFailing_78 : decode cX9_firstFailing 78 = .ok (.istore_n 2, 1) := by decide +kernel
theorem dX9_firstFailing_79 : decode cX9_firstFailing 79 = .ok (.iinc 4 1, 3) := by decide +kernel
theorem dX9_firstFailing_82 : decode cX9_firstFailing 82 = .ok (.goto (-50), 3) := by decide +kernel
theorem dX9_firstFailing_85 : decode cX9_firstFailing 85 = .ok (.iload_n 2, 1) := by decide +kernel
theorem dX9_firstFailing_86 : decode cX9_firstFailing 86 = .ok (.ireturn, 1) := by decide +kernel
theorem dX9_failing_0 : decode cX9_failing 0 = .ok (.iload_n 1, 1) := by decide +kernel
theorem dX9_failing_1 : decode cX9_failing 1 = .ok (.invokestatic 256, 3) := by decide +kernel
theorem dX9_failing_4 : decode cX9_failing 4 = .ok (.aload_n 0, 1) := by decide +kernel
theorem dX9_failing_5 : decode cX9_failing 5 = .ok (.getfield 36, 3) := by decide +kernel
theorem dX9_failing_8 : decode cX9_failing 8 = .ok (.aload_n 0, 1) := by decide +kernel
theorem dX9_failing_9 : decode cX9_failing 9 = .ok (.getfield 10, 3) := by decide +kernel
theorem dX9_failing_12 : decode cX9_failing 12 = .ok (.iconst 0, 1) := by decide +kernel
theorem dX9_failing_13 : decode cX9_failing 13 = .ok (.iconst (-1), 1) := by decide +kernel
theorem dX9_failing_14 : decode cX9_failing 14 = .ok (.invokevirtual 235, 3) := by decide +kernel
theorem dX9_failing_17 : decode cX9_failing 17 = .ok (.iconst 0, 1) := by decide +kernel
theorem dX9_failing_18 : decode cX9_failing 18 = .ok (.istore_n 2, 1) := by decide +kernel
theorem dX9_failing_19 : decode cX9_failing 19 = .ok (.iconst 0, 1) := by decide +kernel
theorem dX9_failing_20 : decode cX9_failing 20 = .ok (.istore_n 3, 1) := by decide +kernel
theorem dX9_failing_21 : decode cX9_failing 21 = .ok (.iload_n 3, 1) := by decide +kernel
theorem dX9_failing_22 : decode cX9_failing 22 = .ok (.aload_n 0, 1) := by decide +kernel
theorem dX9_failing_23 : decode cX9_failing 23 = .ok (.getfield 10, 3) := by decide +kernel
theorem dX9_failing_26 : decode cX9_failing 26 = .ok (.invokevirtual 90, 3) := by decide +kernel
theorem dX9_failing_29 : decode cX9_failing 29 = .ok (.if_icmp .ge 28, 3) := by decide +kernel
theorem dX9_failing_32 : decode cX9_failing 32 = .ok (.aload_n 0, 1) := by decide +kernel
theorem dX9_failing_33 : decode cX9_failing 33 = .ok (.getfield 36, 3) := by decide +kernel
theorem dX9_failing_36 : decode cX9_failing 36 = .ok (.aload_n 0, 1) := by decide +kernel
theorem dX9_failing_37 : decode cX9_failing 37 = .ok (.getfield 10, 3) := by decide +kernel
theorem dX9_failing_40 : decode cX9_failing 40 = .ok (.iload_n 3, 1) := by decide +kernel
theorem dX9_failing_41 : decode cX9_failing 41 = .ok (.invokevirtual 239, 3) := by decide +kernel
theorem dX9_failing_44 : decode cX9_failing 44 = .ok (.iload_n 1, 1) := by decide +kernel
theorem dX9_failing_45 : decode cX9_failing 45 = .ok (.if_icmp .gt 6, 3) := by decide +kernel
theorem dX9_failing_48 : decode cX9_failing 48 = .ok (.iinc 2 1, 3) := by decide +kernel
theorem dX9_failing_51 : decode cX9_failing 51 = .ok (.iinc 3 1, 3) := by decide +kernel
theorem dX9_failing_54 : decode cX9_failing 54 = .ok (.goto (-33), 3) := by decide +kernel
theorem dX9_failing_57 : decode cX9_failing 57 = .ok (.iload_n 2, 1) := by decide +kernel
theorem dX9_failing_58 : decode cX9_failing 58 = .ok (.ireturn, 1) := by decide +kernel
theorem dX9_rutIn_0 : decode cX9_rutIn 0 = .ok (.aload_n 0, 1) := by decide +kernel
theorem dX9_rutIn_1 : decode cX9_rutIn 1 = .ok (.iload_n 1, 1) := by decide +kernel
theorem dX9_rutIn_2 : decode cX9_rutIn 2 = .ok (.invokevirtual 157, 3) := by decide +kernel
theorem dX9_rutIn_5 : decode cX9_rutIn 5 = .ok (.iload_n 2, 1) := by decide +kernel
theorem dX9_rutIn_6 : decode cX9_rutIn 6 = .ok (.invokestatic 256, 3) := by decide +kernel
theorem dX9_rutIn_9 : decode cX9_rutIn 9 = .ok (.aload_n 0, 1) := by decide +kernel
theorem dX9_rutIn_10 : decode cX9_rutIn 10 = .ok (.getfield 36, 3) := by decide +kernel
theorem dX9_rutIn_13 : decode cX9_rutIn 13 = .ok (.aload_n 0, 1) := by decide +kernel
theorem dX9_rutIn_14 : decode cX9_rutIn 14 = .ok (.getfield 10, 3) := by decide +kernel
theorem dX9_rutIn_17 : decode cX9_rutIn 17 = .ok (.iconst 0, 1) := by decide +kernel
theorem dX9_rutIn_18 : decode cX9_rutIn 18 = .ok (.iconst (-1), 1) := by decide +kernel
theorem dX9_rutIn_19 : decode cX9_rutIn 19 = .ok (.invokevirtual 235, 3) := by decide +kernel
theorem dX9_rutIn_22 : decode cX9_rutIn 22 = .ok (.aload_n 0, 1) := by decide +kernel
theorem dX9_rutIn_23 : decode cX9_rutIn 23 = .ok (.getfield 36, 3) := by decide +kernel
theorem dX9_rutIn_26 : decode cX9_rutIn 26 = .ok (.aload_n 0, 1) := by decide +kernel
theorem dX9_rutIn_27 : decode cX9_rutIn 27 = .ok (.getfield 10, 3) := by decide +kernel
theorem dX9_rutIn_30 : decode cX9_rutIn 30 = .ok (.iload_n 1, 1) := by decide +kernel
theorem dX9_rutIn_31 : decode cX9_rutIn 31 = .ok (.iload_n 2, 1) := by decide +kernel
theorem dX9_rutIn_32 : decode cX9_rutIn 32 = .ok (.invokevirtual 259, 3) := by decide +kernel
theorem dX9_rutIn_35 : decode cX9_rutIn 35 = .ok (.aload_n 0, 1) := by decide +kernel
theorem dX9_rutIn_36 : decode cX9_rutIn 36 = .ok (.getfield 36, 3) := by decide +kernel
theorem dX9_rutIn_39 : decode cX9_rutIn 39 = .ok (.getfield 262, 3) := by decide +kernel
theorem dX9_rutIn_42 : decode cX9_rutIn 42 = .ok (.ireturn, 1) := by decide +kernel
theorem dX9_wornIn_0 : decode cX9_wornIn 0 = .ok (.aload_n 0, 1) := by decide +kernel
theorem dX9_wornIn_1 : decode cX9_wornIn 1 = .ok (.iload_n 1, 1) := by decide +kernel
theorem dX9_wornIn_2 : decode cX9_wornIn 2 = .ok (.invokevirtual 157, 3) := by decide +kernel
theorem dX9_wornIn_5 : decode cX9_wornIn 5 = .ok (.iload_n 2, 1) := by decide +kernel
theorem dX9_wornIn_6 : decode cX9_wornIn 6 = .ok (.invokestatic 256, 3) := by decide +kernel
theorem dX9_wornIn_9 : decode cX9_wornIn 9 = .ok (.aload_n 0, 1) := by decide +kernel
theorem dX9_wornIn_10 : decode cX9_wornIn 10 = .ok (.getfield 36, 3) := by decide +kernel
theorem dX9_wornIn_13 : decode cX9_wornIn 13 = .ok (.aload_n 0, 1) := by decide +kernel
theorem dX9_wornIn_14 : decode cX9_wornIn 14 = .ok (.getfield 10, 3) := by decide +kernel
theorem dX9_wornIn_17 : decode cX9_wornIn 17 = .ok (.iconst 0, 1) := by decide +kernel
theorem dX9_wornIn_18 : decode cX9_wornIn 18 = .ok (.iconst (-1), 1) := by decide +kernel
theorem dX9_wornIn_19 : decode cX9_wornIn 19 = .ok (.invokevirtual 235, 3) := by decide +kernel
theorem dX9_wornIn_22 : decode cX9_wornIn 22 = .ok (.aload_n 0, 1) := by decide +kernel
theorem dX9_wornIn_23 : decode cX9_wornIn 23 = .ok (.getfield 36, 3) := by decide +kernel
theorem dX9_wornIn_26 : decode cX9_wornIn 26 = .ok (.aload_n 0, 1) := by decide +kernel
theorem dX9_wornIn_27 : decode cX9_wornIn 27 = .ok (.getfield 10, 3) := by decide +kernel
theorem dX9_wornIn_30 : decode cX9_wornIn 30 = .ok (.iload_n 1, 1) := by decide +kernel
theorem dX9_wornIn_31 : decode cX9_wornIn 31 = .ok (.iload_n 2, 1) := by decide +kernel
theorem dX9_wornIn_32 : decode cX9_wornIn 32 = .ok (.invokevirtual 259, 3) := by decide +kernel
theorem dX9_wornIn_35 : decode cX9_wornIn 35 = .ok (.aload_n 0, 1) := by decide +kernel
theorem dX9_wornIn_36 : decode cX9_wornIn 36 = .ok (.getfield 36, 3) := by decide +kernel
theorem dX9_wornIn_39 : decode cX9_wornIn 39 = .ok (.getfield 265, 3) := by decide +kernel
theorem dX9_wornIn_42 : decode cX9_wornIn 42 = .ok (.lreturn, 1) := by decide +kernel
theorem dX9_countIn_0 : decode cX9_countIn 0 = .ok (.iload_n 1, 1) := by decide +kernel
theorem dX9_countIn_1 : decode cX9_countIn 1 = .ok (.aload_n 0, 1) := by decide +kernel
theorem dX9_countIn_2 : decode cX9_countIn 2 = .ok (.getfield 10, 3) := by decide +kernel
theorem dX9_countIn_5 : decode cX9_countIn 5 = .ok (.getfield 119, 3) := by decide +kernel
theorem dX9_countIn_8 : decode cX9_countIn 8 = .ok (.getfield 123, 3) := by decide +kernel
theorem dX9_countIn_11 : decode cX9_countIn 11 = .ok (.invokestatic 200, 3) := by decide +kernel
theorem dX9_countIn_14 : decode cX9_countIn 14 = .ok (.iload_n 2, 1) := by decide +kernel
theorem dX9_countIn_15 : decode cX9_countIn 15 = .ok (.invokestatic 256, 3) := by decide +kernel
theorem dX9_countIn_18 : decode cX9_countIn 18 = .ok (.aload_n 0, 1) := by decide +kernel
theorem dX9_countIn_19 : decode cX9_countIn 19 = .ok (.getfield 10, 3) := by decide +kernel
theorem dX9_countIn_22 : decode cX9_countIn 22 = .ok (.getfield 119, 3) := by decide +kernel
theorem dX9_countIn_25 : decode cX9_countIn 25 = .ok (.iload_n 1, 1) := by decide +kernel
theorem dX9_countIn_26 : decode cX9_countIn 26 = .ok (.iload_n 2, 1) := by decide +kernel
theorem dX9_countIn_27 : decode cX9_countIn 27 = .ok (.invokevirtual 267, 3) := by decide +kernel
theorem dX9_countIn_30 : decode cX9_countIn 30 = .ok (.ireturn, 1) := by decide +kernel
theorem dX9_yearsWith_0 : decode cX9_yearsWith 0 = .ok (.aload_n 0, 1) := by decide +kernel
theorem dX9_yearsWith_1 : decode cX9_yearsWith 1 = .ok (.iload_n 1, 1) := by decide +kernel
theorem dX9_yearsWith_2 : decode cX9_yearsWith 2 = .ok (.invokevirtual 157, 3) := by decide +kernel
theorem dX9_yearsWith_5 : decode cX9_yearsWith 5 = .ok (.iload_n 2, 1) := by decide +kernel
theorem dX9_yearsWith_6 : decode cX9_yearsWith 6 = .ok (.iconst 0, 1) := by decide +kernel
theorem dX9_yearsWith_7 : decode cX9_yearsWith 7 = .ok (.sipush 900, 3) := by decide +kernel
theorem dX9_yearsWith_10 : decode cX9_yearsWith 10 = .ok (.invokestatic 100, 3) := by decide +kernel
theorem dX9_yearsWith_13 : decode cX9_yearsWith 13 = .ok (.aload_n 0, 1) := by decide +kernel
theorem dX9_yearsWith_14 : decode cX9_yearsWith 14 = .ok (.getfield 36, 3) := by decide +kernel
theorem dX9_yearsWith_17 : decode cX9_yearsWith 17 = .ok (.aload_n 0, 1) := by decide +kernel
theorem dX9_yearsWith_18 : decode cX9_yearsWith 18 = .ok (.getfield 10, 3) := by decide +kernel
theorem dX9_yearsWith_21 : decode cX9_yearsWith 21 = .ok (.iload_n 2, 1) := by decide +kernel
theorem dX9_yearsWith_22 : decode cX9_yearsWith 22 = .ok (.iconst (-1), 1) := by decide +kernel
theorem dX9_yearsWith_23 : decode cX9_yearsWith 23 = .ok (.invokevirtual 235, 3) := by decide +kernel
theorem dX9_yearsWith_26 : decode cX9_yearsWith 26 = .ok (.aload_n 0, 1) := by decide +kernel
theorem dX9_yearsWith_27 : decode cX9_yearsWith 27 = .ok (.getfield 36, 3) := by decide +kernel
theorem dX9_yearsWith_30 : decode cX9_yearsWith 30 = .ok (.aload_n 0, 1) := by decide +kernel
theorem dX9_yearsWith_31 : decode cX9_yearsWith 31 = .ok (.getfield 10, 3) := by decide +kernel
theorem dX9_yearsWith_34 : decode cX9_yearsWith 34 = .ok (.iload_n 1, 1) := by decide +kernel
theorem dX9_yearsWith_35 : decode cX9_yearsWith 35 = .ok (.invokevirtual 239, 3) := by decide +kernel
theorem dX9_yearsWith_38 : decode cX9_yearsWith 38 = .ok (.invokestatic 243, 3) := by decide +kernel
theorem dX9_yearsWith_41 : decode cX9_yearsWith 41 = .ok (.ireturn, 1) := by decide +kernel
theorem dX9_yearsIfClosed_0 : decode cX9_yearsIfClosed 0 = .ok (.iload_n 1, 1) := by decide +kernel
theorem dX9_yearsIfClosed_1 : decode cX9_yearsIfClosed 1 = .ok (.aload_n 0, 1) := by decide +kernel
theorem dX9_yearsIfClosed_2 : decode cX9_yearsIfClosed 2 = .ok (.getfield 10, 3) := by decide +kernel
theorem dX9_yearsIfClosed_5 : decode cX9_yearsIfClosed 5 = .ok (.getfield 107, 3) := by decide +kernel
theorem dX9_yearsIfClosed_8 : decode cX9_yearsIfClosed 8 = .ok (.invokestatic 200, 3) := by decide +kernel
theorem dX9_yearsIfClosed_11 : decode cX9_yearsIfClosed 11 = .ok (.iload_n 2, 1) := by decide +kernel
theorem dX9_yearsIfClosed_12 : decode cX9_yearsIfClosed 12 = .ok (.aload_n 0, 1) := by decide +kernel
theorem dX9_yearsIfClosed_13 : decode cX9_yearsIfClosed 13 = .ok (.getfield 10, 3) := by decide +kernel
theorem dX9_yearsIfClosed_16 : decode cX9_yearsIfClosed 16 = .ok (.getfield 107, 3) := by decide +kernel
theorem dX9_yearsIfClosed_19 : decode cX9_yearsIfClosed 19 = .ok (.invokestatic 200, 3) := by decide +kernel
theorem dX9_yearsIfClosed_22 : decode cX9_yearsIfClosed 22 = .ok (.aload_n 0, 1) := by decide +kernel
theorem dX9_yearsIfClosed_23 : decode cX9_yearsIfClosed 23 = .ok (.getfield 36, 3) := by decide +kernel
theorem dX9_yearsIfClosed_26 : decode cX9_yearsIfClosed 26 = .ok (.aload_n 0, 1) := by decide +kernel
theorem dX9_yearsIfClosed_27 : decode cX9_yearsIfClosed 27 = .ok (.getfield 10, 3) := by decide +kernel
theorem dX9_yearsIfClosed_30 : decode cX9_yearsIfClosed 30 = .ok (.iconst 0, 1) := by decide +kernel
theorem dX9_yearsIfClosed_31 : decode cX9_yearsIfClosed 31 = .ok (.iload_n 2, 1) := by decide +kernel
theorem dX9_yearsIfClosed_32 : decode cX9_yearsIfClosed 32 = .ok (.invokevirtual 235, 3) := by decide +kernel
theorem dX9_yearsIfClosed_35 : decode cX9_yearsIfClosed 35 = .ok (.aload_n 0, 1) := by decide +kernel
theorem dX9_yearsIfClosed_36 : decode cX9_yearsIfClosed 36 = .ok (.getfield 36, 3) := by decide +kernel
theorem dX9_yearsIfClosed_39 : decode cX9_yearsIfClosed 39 = .ok (.aload_n 0, 1) := by decide +kernel
theorem dX9_yearsIfClosed_40 : decode cX9_yearsIfClosed 40 = .ok (.getfield 10, 3) := by decide +kernel
theorem dX9_yearsIfClosed_43 : decode cX9_yearsIfClosed 43 = .ok (.iload_n 1, 1) := by decide +kernel
theorem dX9_yearsIfClosed_44 : decode cX9_yearsIfClosed 44 = .ok (.iload_n 1, 1) := by decide +kernel
theorem dX9_yearsIfClosed_45 : decode cX9_yearsIfClosed 45 = .ok (.invokevirtual 249, 3) := by decide +kernel
theorem dX9_yearsIfClosed_48 : decode cX9_yearsIfClosed 48 = .ok (.invokestatic 243, 3) := by decide +kernel
theorem dX9_yearsIfClosed_51 : decode cX9_yearsIfClosed 51 = .ok (.ireturn, 1) := by decide +kernel
theorem dX9_safestClosing_0 : decode cX9_safestClosing 0 = .ok (.iconst (-1), 1) := by decide +kernel
theorem dX9_safestClosing_1 : decode cX9_safestClosing 1 = .ok (.istore_n 1, 1) := by decide +kernel
theorem dX9_safestClosing_2 : decode cX9_safestClosing 2 = .ok (.iconst (-1), 1) := by decide +kernel
theorem dX9_safestClosing_3 : decode cX9_safestClosing 3 = .ok (.istore_n 2, 1) := by decide +kernel
theorem dX9_safestClosing_4 : decode cX9_safestClosing 4 = .ok (.iconst 0, 1) := by decide +kernel
theorem dX9_safestClosing_5 : decode cX9_safestClosing 5 = .ok (.istore_n 3, 1) := by decide +kernel
theorem dX9_safestClosing_6 : decode cX9_safestClosing 6 = .ok (.iload_n 3, 1) := by decide +kernel
theorem dX9_safestClosing_7 : decode cX9_safestClosing 7 = .ok (.aload_n 0, 1) := by decide +kernel
theorem dX9_safestClosing_8 : decode cX9_safestClosing 8 = .ok (.getfield 10, 3) := by decide +kernel
theorem dX9_safestClosing_11 : decode cX9_safestClosing 11 = .ok (.getfield 107, 3) := by decide +kernel
theorem dX9_safestClosing_14 : decode cX9_safestClosing 14 = .ok (.if_icmp .ge 67, 3) := by decide +kernel
theorem dX9_safestClosing_17 : decode cX9_safestClosing 17 = .ok (.aload_n 0, 1) := by decide +kernel
theorem dX9_safestClosing_18 : decode cX9_safestClosing 18 = .ok (.getfield 10, 3) := by decide +kernel
theorem dX9_safestClosing_21 : decode cX9_safestClosing 21 = .ok (.iload_n 3, 1) := by decide +kernel
theorem dX9_safestClosing_22 : decode cX9_safestClosing 22 = .ok (.invokevirtual 270, 3) := by decide +kernel
theorem dX9_safestClosing_25 : decode cX9_safestClosing 25 = .ok (.ifCond .ne 50, 3) := by decide +kernel
theorem dX9_safestClosing_28 : decode cX9_safestClosing 28 = .ok (.aload_n 0, 1) := by decide +kernel
theorem dX9_safestClosing_29 : decode cX9_safestClosing 29 = .ok (.getfield 36, 3) := by decide +kernel
theorem dX9_safestClosing_32 : decode cX9_safestClosing 32 = .ok (.aload_n 0, 1) := by decide +kernel
theorem dX9_safestClosing_33 : decode cX9_safestClosing 33 = .ok (.getfield 10, 3) := by decide +kernel
theorem dX9_safestClosing_36 : decode cX9_safestClosing 36 = .ok (.iconst 0, 1) := by decide +kernel
theorem dX9_safestClosing_37 : decode cX9_safestClosing 37 = .ok (.iload_n 3, 1) := by decide +kernel
theorem dX9_safestClosing_38 : decode cX9_safestClosing 38 = .ok (.invokevirtual 235, 3) := by decide +kernel
theorem dX9_safestClosing_41 : decode cX9_safestClosing 41 = .ok (.aload_n 0, 1) := by decide +kernel
theorem dX9_safestClosing_42 : decode cX9_safestClosing 42 = .ok (.getfield 36, 3) := by decide +kernel
theorem dX9_safestClosing_45 : decode cX9_safestClosing 45 = .ok (.aload_n 0, 1) := by decide +kernel
theorem dX9_safestClosing_46 : decode cX9_safestClosing 46 = .ok (.getfield 10, 3) := by decide +kernel
theorem dX9_safestClosing_49 : decode cX9_safestClosing 49 = .ok (.iconst 0, 1) := by decide +kernel
theorem dX9_safestClosing_50 : decode cX9_safestClosing 50 = .ok (.aload_n 0, 1) := by decide +kernel
theorem dX9_safestClosing_51 : decode cX9_safestClosing 51 = .ok (.getfield 10, 3) := by decide +kernel
theorem dX9_safestClosing_54 : decode cX9_safestClosing 54 = .ok (.getfield 107, 3) := by decide +kernel
theorem dX9_safestClosing_57 : decode cX9_safestClosing 57 = .ok (.iconst 1, 1) := by decide +kernel
theorem dX9_safestClosing_58 : decode cX9_safestClosing 58 = .ok (.isub, 1) := by decide +kernel
theorem dX9_safestClosing_59 : decode cX9_safestClosing 59 = .ok (.invokevirtual 249, 3) := by decide +kernel
theorem dX9_safestClosing_62 : decode cX9_safestClosing 62 = .ok (.istore 4, 2) := by decide +kernel
theorem dX9_safestClosing_64 : decode cX9_safestClosing 64 = .ok (.iload 4, 2) := by decide +kernel
theorem dX9_safestClosing_66 : decode cX9_safestClosing 66 = .ok (.iload_n 2, 1) := by decide +kernel
theorem dX9_safestClosing_67 : decode cX9_safestClosing 67 = .ok (.if_icmp .le 8, 3) := by decide +kernel
theorem dX9_safestClosing_70 : decode cX9_safestClosing 70 = .ok (.iload 4, 2) := by decide +kernel
theorem dX9_safestClosing_72 : decode cX9_safestClosing 72 = .ok (.istore_n 2, 1) := by decide +kernel
theorem dX9_safestClosing_73 : decode cX9_safestClosing 73 = .ok (.iload_n 3, 1) := by decide +kernel
theorem dX9_safestClosing_74 : decode cX9_safestClosing 74 = .ok (.istore_n 1, 1) := by decide +kernel
theorem dX9_safestClosing_75 : decode cX9_safestClosing 75 = .ok (.iinc 3 1, 3) := by decide +kernel
theorem dX9_safestClosing_78 : decode cX9_safestClosing 78 = .ok (.goto (-72), 3) := by decide +kernel
theorem dX9_safestClosing_81 : decode cX9_safestClosing 81 = .ok (.iload_n 1, 1) := by decide +kernel
theorem dX9_safestClosing_82 : decode cX9_safestClosing 82 = .ok (.ireturn, 1) := by decide +kernel
theorem dX9_weakest_0 : decode cX9_weakest 0 = .ok (.aload_n 0, 1) := by decide +kernel
theorem dX9_weakest_1 : decode cX9_weakest 1 = .ok (.getfield 10, 3) := by decide +kernel
theorem dX9_weakest_4 : decode cX9_weakest 4 = .ok (.invokevirtual 90, 3) := by decide +kernel
theorem dX9_weakest_7 : decode cX9_weakest 7 = .ok (.ifCond .ne 14, 3) := by decide +kernel
theorem dX9_weakest_10 : decode cX9_weakest 10 = .ok (.new 273, 3) := by decide +kernel
theorem dX9_weakest_13 : decode cX9_weakest 13 = .ok (.dup, 1) := by decide +kernel
theorem dX9_weakest_14 : decode cX9_weakest 14 = .ok (.ldc_w 275, 3) := by decide +kernel
theorem dX9_weakest_17 : decode cX9_weakest 17 = .ok (.invokespecial 277, 3) := by decide +kernel
theorem dX9_weakest_20 : decode cX9_weakest 20 = .ok (.athrow, 1) := by decide +kernel
theorem dX9_weakest_21 : decode cX9_weakest 21 = .ok (.iconst 0, 1) := by decide +kernel
theorem dX9_weakest_22 : decode cX9_weakest 22 = .ok (.istore_n 1, 1) := by decide +kernel
theorem dX9_weakest_23 : decode cX9_weakest 23 = .ok (.aload_n 0, 1) := by decide +kernel
theorem dX9_weakest_24 : decode cX9_weakest 24 = .ok (.getfield 10, 3) := by decide +kernel
theorem dX9_weakest_27 : decode cX9_weakest 27 = .ok (.iconst 0, 1) := by decide +kernel
theorem dX9_weakest_28 : decode cX9_weakest 28 = .ok (.invokevirtual 176, 3) := by decide +kernel
theorem dX9_weakest_31 : decode cX9_weakest 31 = .ok (.istore_n 2, 1) := by decide +kernel
theorem dX9_weakest_32 : decode cX9_weakest 32 = .ok (.iconst 1, 1) := by decide +kernel
theorem dX9_weakest_33 : decode cX9_weakest 33 = .ok (.istore_n 3, 1) := by decide +kernel
theorem dX9_weakest_34 : decode cX9_weakest 34 = .ok (.iload_n 3, 1) := by decide +kernel
theorem dX9_weakest_35 : decode cX9_weakest 35 = .ok (.aload_n 0, 1) := by decide +kernel
theorem dX9_weakest_36 : decode cX9_weakest 36 = .ok (.getfield 10, 3) := by decide +kernel
theorem dX9_weakest_39 : decode cX9_weakest 39 = .ok (.invokevirtual 90, 3) := by decide +kernel
theorem dX9_weakest_42 : decode cX9_weakest 42 = .ok (.if_icmp .ge 30, 3) := by decide +kernel
theorem dX9_weakest_45 : decode cX9_weakest 45 = .ok (.aload_n 0, 1) := by decide +kernel
theorem dX9_weakest_46 : decode cX9_weakest 46 = .ok (.getfield 10, 3) := by decide +kernel
theorem dX9_weakest_49 : decode cX9_weakest 49 = .ok (.iload_n 3, 1) := by decide +kernel
theorem dX9_weakest_50 : decode cX9_weakest 50 = .ok (.invokevirtual 176, 3) := by decide +kernel
theorem dX9_weakest_53 : decode cX9_weakest 53 = .ok (.istore 4, 2) := by decide +kernel
theorem dX9_weakest_55 : decode cX9_weakest 55 = .ok (.iload 4, 2) := by decide +kernel
theorem dX9_weakest_57 : decode cX9_weakest 57 = .ok (.iload_n 2, 1) := by decide +kernel
theorem dX9_weakest_58 : decode cX9_weakest 58 = .ok (.if_icmp .ge 8, 3) := by decide +kernel
theorem dX9_weakest_61 : decode cX9_weakest 61 = .ok (.iload 4, 2) := by decide +kernel
theorem dX9_weakest_63 : decode cX9_weakest 63 = .ok (.istore_n 2, 1) := by decide +kernel
theorem dX9_weakest_64 : decode cX9_weakest 64 = .ok (.iload_n 3, 1) := by decide +kernel
theorem dX9_weakest_65 : decode cX9_weakest 65 = .ok (.istore_n 1, 1) := by decide +kernel
theorem dX9_weakest_66 : decode cX9_weakest 66 = .ok (.iinc 3 1, 3) := by decide +kernel
theorem dX9_weakest_69 : decode cX9_weakest 69 = .ok (.goto (-35), 3) := by decide +kernel
theorem dX9_weakest_72 : decode cX9_weakest 72 = .ok (.iload_n 1, 1) := by decide +kernel
theorem dX9_weakest_73 : decode cX9_weakest 73 = .ok (.ireturn, 1) := by decide +kernel
theorem dX9_discardTells_0 : decode cX9_discardTells 0 = .ok (.iload_n 1, 1) := by decide +kernel
theorem dX9_discardTells_1 : decode cX9_discardTells 1 = .ok (.aload_n 0, 1) := by decide +kernel
theorem dX9_discardTells_2 : decode cX9_discardTells 2 = .ok (.getfield 10, 3) := by decide +kernel
theorem dX9_discardTells_5 : decode cX9_discardTells 5 = .ok (.getfield 110, 3) := by decide +kernel
theorem dX9_discardTells_8 : decode cX9_discardTells 8 = .ok (.getfield 114, 3) := by decide +kernel
theorem dX9_discardTells_11 : decode cX9_discardTells 11 = .ok (.invokestatic 200, 3) := by decide +kernel
theorem dX9_discardTells_14 : decode cX9_discardTells 14 = .ok (.iconst 0, 1) := by decide +kernel
theorem dX9_discardTells_15 : decode cX9_discardTells 15 = .ok (.istore_n 2, 1) := by decide +kernel
theorem dX9_discardTells_16 : decode cX9_discardTells 16 = .ok (.iconst 0, 1) := by decide +kernel
theorem dX9_discardTells_17 : decode cX9_discardTells 17 = .ok (.istore_n 3, 1) := by decide +kernel
theorem dX9_discardTells_18 : decode cX9_discardTells 18 = .ok (.iload_n 3, 1) := by decide +kernel
theorem dX9_discardTells_19 : decode cX9_discardTells 19 = .ok (.aload_n 0, 1) := by decide +kernel
theorem dX9_discardTells_20 : decode cX9_discardTells 20 = .ok (.getfield 10, 3) := by decide +kernel
theorem dX9_discardTells_23 : decode cX9_discardTells 23 = .ok (.invokevirtual 90, 3) := by decide +kernel
theorem dX9_discardTells_26 : decode cX9_discardTells 26 = .ok (.if_icmp .ge 53, 3) := by decide +kernel
theorem dX9_discardTells_29 : decode cX9_discardTells 29 = .ok (.aload_n 0, 1) := by decide +kernel
theorem dX9_discardTells_30 : decode cX9_discardTells 30 = .ok (.getfield 10, 3) := by decide +kernel
theorem dX9_discardTells_33 : decode cX9_discardTells 33 = .ok (.aload_n 0, 1) := by decide +kernel
theorem dX9_discardTells_34 : decode cX9_discardTells 34 = .ok (.getfield 10, 3) := by decide +kernel
theorem dX9_discardTells_37 : decode cX9_discardTells 37 = .ok (.iload_n 3, 1) := by decide +kernel
theorem dX9_discardTells_38 : decode cX9_discardTells 38 = .ok (.iload_n 1, 1) := by decide +kernel
theorem dX9_discardTells_39 : decode cX9_discardTells 39 = .ok (.invokevirtual 182, 3) := by decide +kernel
theorem dX9_discardTells_42 : decode cX9_discardTells 42 = .ok (.aload_n 0, 1) := by decide +kernel
theorem dX9_discardTells_43 : decode cX9_discardTells 43 = .ok (.getfield 10, 3) := by decide +kernel
theorem dX9_discardTells_46 : decode cX9_discardTells 46 = .ok (.getfield 169, 3) := by decide +kernel
theorem dX9_discardTells_49 : decode cX9_discardTells 49 = .ok (.iload_n 3, 1) := by decide +kernel
theorem dX9_discardTells_50 : decode cX9_discardTells 50 = .ok (.iaload, 1) := by decide +kernel
theorem dX9_discardTells_51 : decode cX9_discardTells 51 = .ok (.invokevirtual 280, 3) := by decide +kernel
theorem dX9_discardTells_54 : decode cX9_discardTells 54 = .ok (.istore 4, 2) := by decide +kernel
theorem dX9_discardTells_56 : decode cX9_discardTells 56 = .ok (.iload_n 2, 1) := by decide +kernel
theorem dX9_discardTells_57 : decode cX9_discardTells 57 = .ok (.aload_n 0, 1) := by decide +kernel
theorem dX9_discardTells_58 : decode cX9_discardTells 58 = .ok (.getfield 10, 3) := by decide +kernel
theorem dX9_discardTells_61 : decode cX9_discardTells 61 = .ok (.iload_n 3, 1) := by decide +kernel
theorem dX9_discardTells_62 : decode cX9_discardTells 62 = .ok (.invokevirtual 176, 3) := by decide +kernel
theorem dX9_discardTells_65 : decode cX9_discardTells 65 = .ok (.iload 4, 2) := by decide +kernel
theorem dX9_discardTells_67 : decode cX9_discardTells 67 = .ok (.isub, 1) := by decide +kernel
theorem dX9_discardTells_68 : decode cX9_discardTells 68 = .ok (.invokestatic 283, 3) := by decide +kernel
theorem dX9_discardTells_71 : decode cX9_discardTells 71 = .ok (.iadd, 1) := by decide +kernel
theorem dX9_discardTells_72 : decode cX9_discardTells 72 = .ok (.istore_n 2, 1) := by decide +kernel
theorem dX9_discardTells_73 : decode cX9_discardTells 73 = .ok (.iinc 3 1, 3) := by decide +kernel
theorem dX9_discardTells_76 : decode cX9_discardTells 76 = .ok (.goto (-58), 3) := by decide +kernel
theorem dX9_discardTells_79 : decode cX9_discardTells 79 = .ok (.iload_n 2, 1) := by decide +kernel
theorem dX9_discardTells_80 : decode cX9_discardTells 80 = .ok (.ireturn, 1) := by decide +kernel
theorem dX9_nextCore_0 : decode cX9_nextCore 0 = .ok (.iconst (-1), 1) := by decide +kernel
theorem dX9_nextCore_1 : decode cX9_nextCore 1 = .ok (.istore_n 1, 1) := by decide +kernel
theorem dX9_nextCore_2 : decode cX9_nextCore 2 = .ok (.iconst 0, 1) := by decide +kernel
theorem dX9_nextCore_3 : decode cX9_nextCore 3 = .ok (.istore_n 2, 1) := by decide +kernel
theorem dX9_nextCore_4 : decode cX9_nextCore 4 = .ok (.iconst 0, 1) := by decide +kernel
theorem dX9_nextCore_5 : decode cX9_nextCore 5 = .ok (.istore_n 3, 1) := by decide +kernel
theorem dX9_nextCore_6 : decode cX9_nextCore 6 = .ok (.iload_n 3, 1) := by decide +kernel
theorem dX9_nextCore_7 : decode cX9_nextCore 7 = .ok (.aload_n 0, 1) := by decide +kernel
theorem dX9_nextCore_8 : decode cX9_nextCore 8 = .ok (.getfield 10, 3) := by decide +kernel
theorem dX9_nextCore_11 : decode cX9_nextCore 11 = .ok (.invokevirtual 90, 3) := by decide +kernel
theorem dX9_nextCore_14 : decode cX9_nextCore 14 = .ok (.if_icmp .ge 73, 3) := by decide +kernel
theorem dX9_nextCore_17 : decode cX9_nextCore 17 = .ok (.aload_n 0, 1) := by decide +kernel
theorem dX9_nextCore_18 : decode cX9_nextCore 18 = .ok (.getfield 10, 3) := by decide +kernel
theorem dX9_nextCore_21 : decode cX9_nextCore 21 = .ok (.iload_n 3, 1) := by decide +kernel
theorem dX9_nextCore_22 : decode cX9_nextCore 22 = .ok (.invokevirtual 172, 3) := by decide +kernel
theorem dX9_nextCore_25 : decode cX9_nextCore 25 = .ok (.ifCond .ne 56, 3) := by decide +kernel
theorem dX9_nextCore_28 : decode cX9_nextCore 28 = .ok (.aload_n 0, 1) := by decide +kernel
theorem dX9_nextCore_29 : decode cX9_nextCore 29 = .ok (.getfield 10, 3) := by decide +kernel
theorem dX9_nextCore_32 : decode cX9_nextCore 32 = .ok (.iload_n 3, 1) := by decide +kernel
theorem dX9_nextCore_33 : decode cX9_nextCore 33 = .ok (.iconst (-1), 1) := by decide +kernel
theorem dX9_nextCore_34 : decode cX9_nextCore 34 = .ok (.invokevirtual 288, 3) := by decide +kernel
theorem dX9_nextCore_37 : decode cX9_nextCore 37 = .ok (.istore 4, 2) := by decide +kernel
theorem dX9_nextCore_39 : decode cX9_nextCore 39 = .ok (.iload 4, 2) := by decide +kernel
theorem dX9_nextCore_41 : decode cX9_nextCore 41 = .ok (.iconst (-1), 1) := by decide +kernel
theorem dX9_nextCore_42 : decode cX9_nextCore 42 = .ok (.if_icmp .ne 5, 3) := by decide +kernel
theorem dX9_nextCore_45 : decode cX9_nextCore 45 = .ok (.iload_n 3, 1) := by decide +kernel
theorem dX9_nextCore_46 : decode cX9_nextCore 46 = .ok (.ireturn, 1) := by decide +kernel
theorem dX9_nextCore_47 : decode cX9_nextCore 47 = .ok (.aload_n 0, 1) := by decide +kernel
theorem dX9_nextCore_48 : decode cX9_nextCore 48 = .ok (.getfield 10, 3) := by decide +kernel
theorem dX9_nextCore_51 : decode cX9_nextCore 51 = .ok (.iload_n 3, 1) := by decide +kernel
theorem dX9_nextCore_52 : decode cX9_nextCore 52 = .ok (.aload_n 0, 1) := by decide +kernel
theorem dX9_nextCore_53 : decode cX9_nextCore 53 = .ok (.getfield 10, 3) := by decide +kernel
theorem dX9_nextCore_56 : decode cX9_nextCore 56 = .ok (.getfield 110, 3) := by decide +kernel
theorem dX9_nextCore_59 : decode cX9_nextCore 59 = .ok (.getfield 210, 3) := by decide +kernel
theorem dX9_nextCore_62 : decode cX9_nextCore 62 = .ok (.iload 4, 2) := by decide +kernel
theorem dX9_nextCore_64 : decode cX9_nextCore 64 = .ok (.iaload, 1) := by decide +kernel
theorem dX9_nextCore_65 : decode cX9_nextCore 65 = .ok (.invokevirtual 291, 3) := by decide +kernel
theorem dX9_nextCore_68 : decode cX9_nextCore 68 = .ok (.istore 5, 2) := by decide +kernel
theorem dX9_nextCore_70 : decode cX9_nextCore 70 = .ok (.iload 5, 2) := by decide +kernel
theorem dX9_nextCore_72 : decode cX9_nextCore 72 = .ok (.iload_n 2, 1) := by decide +kernel
theorem dX9_nextCore_73 : decode cX9_nextCore 73 = .ok (.if_icmp .le 8, 3) := by decide +kernel
theorem dX9_nextCore_76 : decode cX9_nextCore 76 = .ok (.iload 5, 2) := by decide +kernel
theorem dX9_nextCore_78 : decode cX9_nextCore 78 = .ok (.istore_n 2, 1) := by decide +kernel
theorem dX9_nextCore_79 : decode cX9_nextCore 79 = .ok (.iload_n 3, 1) := by decide +kernel
theorem dX9_nextCore_80 : decode cX9_nextCore 80 = .ok (.istore_n 1, 1) := by decide +kernel
theorem dX9_nextCore_81 : decode cX9_nextCore 81 = .ok (.iinc 3 1, 3) := by decide +kernel
theorem dX9_nextCore_84 : decode cX9_nextCore 84 = .ok (.goto (-78), 3) := by decide +kernel
theorem dX9_nextCore_87 : decode cX9_nextCore 87 = .ok (.iload_n 1, 1) := by decide +kernel
theorem dX9_nextCore_88 : decode cX9_nextCore 88 = .ok (.ireturn, 1) := by decide +kernel
theorem dX9_cost_0 : decode cX9_cost 0 = .ok (.aload_n 0, 1) := by decide +kernel
theorem dX9_cost_1 : decode cX9_cost 1 = .ok (.iload_n 1, 1) := by decide +kernel
theorem dX9_cost_2 : decode cX9_cost 2 = .ok (.iload_n 2, 1) := by decide +kernel
theorem dX9_cost_3 : decode cX9_cost 3 = .ok (.iload_n 3, 1) := by decide +kernel
theorem dX9_cost_4 : decode cX9_cost 4 = .ok (.invokevirtual 294, 3) := by decide +kernel
theorem dX9_cost_7 : decode cX9_cost 7 = .ok (.aload_n 0, 1) := by decide +kernel
theorem dX9_cost_8 : decode cX9_cost 8 = .ok (.getfield 43, 3) := by decide +kernel
theorem dX9_cost_11 : decode cX9_cost 11 = .ok (.aload_n 0, 1) := by decide +kernel
theorem dX9_cost_12 : decode cX9_cost 12 = .ok (.getfield 10, 3) := by decide +kernel
theorem dX9_cost_15 : decode cX9_cost 15 = .ok (.iload_n 1, 1) := by decide +kernel
theorem dX9_cost_16 : decode cX9_cost 16 = .ok (.iload_n 2, 1) := by decide +kernel
theorem dX9_cost_17 : decode cX9_cost 17 = .ok (.iload_n 3, 1) := by decide +kernel
theorem dX9_cost_18 : decode cX9_cost 18 = .ok (.invokevirtual 297, 3) := by decide +kernel
theorem dX9_cost_21 : decode cX9_cost 21 = .ok (.ireturn, 1) := by decide +kernel
theorem dX9_whyNot_0 : decode cX9_whyNot 0 = .ok (.aload_n 0, 1) := by decide +kernel
theorem dX9_whyNot_1 : decode cX9_whyNot 1 = .ok (.iload_n 1, 1) := by decide +kernel
theorem dX9_whyNot_2 : decode cX9_whyNot 2 = .ok (.iload_n 2, 1) := by decide +kernel
theorem dX9_whyNot_3 : decode cX9_whyNot 3 = .ok (.iload_n 3, 1) := by decide +kernel
theorem dX9_whyNot_4 : decode cX9_whyNot 4 = .ok (.invokevirtual 294, 3) := by decide +kernel
theorem dX9_whyNot_7 : decode cX9_whyNot 7 = .ok (.aload_n 0, 1) := by decide +kernel
theorem dX9_whyNot_8 : decode cX9_whyNot 8 = .ok (.getfield 43, 3) := by decide +kernel
theorem dX9_whyNot_11 : decode cX9_whyNot 11 = .ok (.aload_n 0, 1) := by decide +kernel
theorem dX9_whyNot_12 : decode cX9_whyNot 12 = .ok (.getfield 10, 3) := by decide +kernel
theorem dX9_whyNot_15 : decode cX9_whyNot 15 = .ok (.iload_n 1, 1) := by decide +kernel
theorem dX9_whyNot_16 : decode cX9_whyNot 16 = .ok (.iload_n 2, 1) := by decide +kernel
theorem dX9_whyNot_17 : decode cX9_whyNot 17 = .ok (.iload_n 3, 1) := by decide +kernel
theorem dX9_whyNot_18 : decode cX9_whyNot 18 = .ok (.invokevirtual 301, 3) := by decide +kernel
theorem dX9_whyNot_21 : decode cX9_whyNot 21 = .ok (.ireturn, 1) := by decide +kernel
theorem dX9_yearsBehind_0 : decode cX9_yearsBehind 0 = .ok (.aload_n 0, 1) := by decide +kernel
theorem dX9_yearsBehind_1 : decode cX9_yearsBehind 1 = .ok (.iload_n 1, 1) := by decide +kernel
theorem dX9_yearsBehind_2 : decode cX9_yearsBehind 2 = .ok (.iload_n 2, 1) := by decide +kernel
theorem dX9_yearsBehind_3 : decode cX9_yearsBehind 3 = .ok (.iload_n 3, 1) := by decide +kernel
theorem dX9_yearsBehind_4 : decode cX9_yearsBehind 4 = .ok (.invokevirtual 294, 3) := by decide +kernel
theorem dX9_yearsBehind_7 : decode cX9_yearsBehind 7 = .ok (.aload_n 0, 1) := by decide +kernel
theorem dX9_yearsBehind_8 : decode cX9_yearsBehind 8 = .ok (.getfield 36, 3) := by decide +kernel
theorem dX9_yearsBehind_11 : decode cX9_yearsBehind 11 = .ok (.aload_n 0, 1) := by decide +kernel
theorem dX9_yearsBehind_12 : decode cX9_yearsBehind 12 = .ok (.getfield 10, 3) := by decide +kernel
theorem dX9_yearsBehind_15 : decode cX9_yearsBehind 15 = .ok (.iconst 0, 1) := by decide +kernel
theorem dX9_yearsBehind_16 : decode cX9_yearsBehind 16 = .ok (.iconst (-1), 1) := by decide +kernel
theorem dX9_yearsBehind_17 : decode cX9_yearsBehind 17 = .ok (.invokevirtual 235, 3) := by decide +kernel
theorem dX9_yearsBehind_20 : decode cX9_yearsBehind 20 = .ok (.aload_n 0, 1) := by decide +kernel
theorem dX9_yearsBehind_21 : decode cX9_yearsBehind 21 = .ok (.getfield 36, 3) := by decide +kernel
theorem dX9_yearsBehind_24 : decode cX9_yearsBehind 24 = .ok (.aload_n 0, 1) := by decide +kernel
theorem dX9_yearsBehind_25 : decode cX9_yearsBehind 25 = .ok (.getfield 10, 3) := by decide +kernel
theorem dX9_yearsBehind_28 : decode cX9_yearsBehind 28 = .ok (.iload_n 1, 1) := by decide +kernel
theorem dX9_yearsBehind_29 : decode cX9_yearsBehind 29 = .ok (.iload_n 2, 1) := by decide +kernel
theorem dX9_yearsBehind_30 : decode cX9_yearsBehind 30 = .ok (.iload_n 3, 1) := by decide +kernel
theorem dX9_yearsBehind_31 : decode cX9_yearsBehind 31 = .ok (.invokevirtual 304, 3) := by decide +kernel
theorem dX9_yearsBehind_34 : decode cX9_yearsBehind 34 = .ok (.invokestatic 243, 3) := by decide +kernel
theorem dX9_yearsBehind_37 : decode cX9_yearsBehind 37 = .ok (.ireturn, 1) := by decide +kernel
theorem dX9_cheapest_0 : decode cX9_cheapest 0 = .ok (.aload_n 0, 1) := by decide +kernel
theorem dX9_cheapest_1 : decode cX9_cheapest 1 = .ok (.iload_n 1, 1) := by decide +kernel
theorem dX9_cheapest_2 : decode cX9_cheapest 2 = .ok (.invokevirtual 157, 3) := by decide +kernel
theorem dX9_cheapest_5 : decode cX9_cheapest 5 = .ok (.iload_n 2, 1) := by decide +kernel
theorem dX9_cheapest_6 : decode cX9_cheapest 6 = .ok (.invokestatic 256, 3) := by decide +kernel
theorem dX9_cheapest_9 : decode cX9_cheapest 9 = .ok (.aload_n 0, 1) := by decide +kernel
theorem dX9_cheapest_10 : decode cX9_cheapest 10 = .ok (.getfield 36, 3) := by decide +kernel
theorem dX9_cheapest_13 : decode cX9_cheapest 13 = .ok (.aload_n 0, 1) := by decide +kernel
theorem dX9_cheapest_14 : decode cX9_cheapest 14 = .ok (.getfield 10, 3) := by decide +kernel
theorem dX9_cheapest_17 : decode cX9_cheapest 17 = .ok (.iconst 0, 1) := by decide +kernel
theorem dX9_cheapest_18 : decode cX9_cheapest 18 = .ok (.iconst (-1), 1) := by decide +kernel
theorem dX9_cheapest_19 : decode cX9_cheapest 19 = .ok (.invokevirtual 235, 3) := by decide +kernel
theorem dX9_cheapest_22 : decode cX9_cheapest 22 = .ok (.aload_n 0, 1) := by decide +kernel
theorem dX9_cheapest_23 : decode cX9_cheapest 23 = .ok (.getfield 43, 3) := by decide +kernel
theorem dX9_cheapest_26 : decode cX9_cheapest 26 = .ok (.aload_n 0, 1) := by decide +kernel
theorem dX9_cheapest_27 : decode cX9_cheapest 27 = .ok (.getfield 10, 3) := by decide +kernel
theorem dX9_cheapest_30 : decode cX9_cheapest 30 = .ok (.aload_n 0, 1) := by decide +kernel
theorem dX9_cheapest_31 : decode cX9_cheapest 31 = .ok (.getfield 36, 3) := by decide +kernel
theorem dX9_cheapest_34 : decode cX9_cheapest 34 = .ok (.iload_n 1, 1) := by decide +kernel
theorem dX9_cheapest_35 : decode cX9_cheapest 35 = .ok (.iload_n 2, 1) := by decide +kernel
theorem dX9_cheapest_36 : decode cX9_cheapest 36 = .ok (.invokevirtual 307, 3) := by decide +kernel
theorem dX9_cheapest_39 : decode cX9_cheapest 39 = .ok (.ireturn, 1) := by decide +kernel
theorem dX9_planCost_0 : decode cX9_planCost 0 = .ok (.iload_n 1, 1) := by decide +kernel
theorem dX9_planCost_1 : decode cX9_planCost 1 = .ok (.invokestatic 256, 3) := by decide +kernel
theorem dX9_planCost_4 : decode cX9_planCost 4 = .ok (.aload_n 0, 1) := by decide +kernel
theorem dX9_planCost_5 : decode cX9_planCost 5 = .ok (.getfield 36, 3) := by decide +kernel
theorem dX9_planCost_8 : decode cX9_planCost 8 = .ok (.aload_n 0, 1) := by decide +kernel
theorem dX9_planCost_9 : decode cX9_planCost 9 = .ok (.getfield 10, 3) := by decide +kernel
theorem dX9_planCost_12 : decode cX9_planCost 12 = .ok (.iconst 0, 1) := by decide +kernel
theorem dX9_planCost_13 : decode cX9_planCost 13 = .ok (.iconst (-1), 1) := by decide +kernel
theorem dX9_planCost_14 : decode cX9_planCost 14 = .ok (.invokevirtual 235, 3) := by decide +kernel
theorem dX9_planCost_17 : decode cX9_planCost 17 = .ok (.iconst 0, 1) := by decide +kernel
theorem dX9_planCost_18 : decode cX9_planCost 18 = .ok (.istore_n 2, 1) := by decide +kernel
theorem dX9_planCost_19 : decode cX9_planCost 19 = .ok (.iconst 0, 1) := by decide +kernel
theorem dX9_planCost_20 : decode cX9_planCost 20 = .ok (.istore_n 3, 1) := by decide +kernel
theorem dX9_planCost_21 : decode cX9_planCost 21 = .ok (.iload_n 3, 1) := by decide +kernel
theorem dX9_planCost_22 : decode cX9_planCost 22 = .ok (.aload_n 0, 1) := by decide +kernel
theorem dX9_planCost_23 : decode cX9_planCost 23 = .ok (.getfield 10, 3) := by decide +kernel
theorem dX9_planCost_26 : decode cX9_planCost 26 = .ok (.invokevirtual 90, 3) := by decide +kernel
theorem dX9_planCost_29 : decode cX9_planCost 29 = .ok (.if_icmp .ge 68, 3) := by decide +kernel
theorem dX9_planCost_32 : decode cX9_planCost 32 = .ok (.aload_n 0, 1) := by decide +kernel
theorem dX9_planCost_33 : decode cX9_planCost 33 = .ok (.getfield 43, 3) := by decide +kernel
theorem dX9_planCost_36 : decode cX9_planCost 36 = .ok (.aload_n 0, 1) := by decide +kernel
theorem dX9_planCost_37 : decode cX9_planCost 37 = .ok (.getfield 10, 3) := by decide +kernel
theorem dX9_planCost_40 : decode cX9_planCost 40 = .ok (.aload_n 0, 1) := by decide +kernel
theorem dX9_planCost_41 : decode cX9_planCost 41 = .ok (.getfield 36, 3) := by decide +kernel
theorem dX9_planCost_44 : decode cX9_planCost 44 = .ok (.iload_n 3, 1) := by decide +kernel
theorem dX9_planCost_45 : decode cX9_planCost 45 = .ok (.iload_n 1, 1) := by decide +kernel
theorem dX9_planCost_46 : decode cX9_planCost 46 = .ok (.invokevirtual 307, 3) := by decide +kernel
theorem dX9_planCost_49 : decode cX9_planCost 49 = .ok (.istore 4, 2) := by decide +kernel
theorem dX9_planCost_51 : decode cX9_planCost 51 = .ok (.iload 4, 2) := by decide +kernel
theorem dX9_planCost_53 : decode cX9_planCost 53 = .ok (.iconst (-1), 1) := by decide +kernel
theorem dX9_planCost_54 : decode cX9_planCost 54 = .ok (.if_icmp .ne 5, 3) := by decide +kernel
theorem dX9_planCost_57 : decode cX9_planCost 57 = .ok (.iconst (-1), 1) := by decide +kernel
theorem dX9_planCost_58 : decode cX9_planCost 58 = .ok (.ireturn, 1) := by decide +kernel
theorem dX9_planCost_59 : decode cX9_planCost 59 = .ok (.iload 4, 2) := by decide +kernel
theorem dX9_planCost_61 : decode cX9_planCost 61 = .ok (.ifCond .eq 30, 3) := by decide +kernel
theorem dX9_planCost_64 : decode cX9_planCost 64 = .ok (.iload_n 2, 1) := by decide +kernel
theorem dX9_planCost_65 : decode cX9_planCost 65 = .ok (.aload_n 0, 1) := by decide +kernel
theorem dX9_planCost_66 : decode cX9_planCost 66 = .ok (.getfield 43, 3) := by decide +kernel
theorem dX9_planCost_69 : decode cX9_planCost 69 = .ok (.aload_n 0, 1) := by decide +kernel
theorem dX9_planCost_70 : decode cX9_planCost 70 = .ok (.getfield 10, 3) := by decide +kernel
theorem dX9_planCost_73 : decode cX9_planCost 73 = .ok (.iload 4, 2) := by decide +kernel
theorem dX9_planCost_75 : decode cX9_planCost 75 = .ok (.sipush 1000, 3) := by decide +kernel
theorem dX9_planCost_78 : decode cX9_planCost 78 = .ok (.idiv, 1) := by decide +kernel
theorem dX9_planCost_79 : decode cX9_planCost 79 = .ok (.iload_n 3, 1) := by decide +kernel
theorem dX9_planCost_80 : decode cX9_planCost 80 = .ok (.iload 4, 2) := by decide +kernel
theorem dX9_planCost_82 : decode cX9_planCost 82 = .ok (.sipush 1000, 3) := by decide +kernel
theorem dX9_planCost_85 : decode cX9_planCost 85 = .ok (.irem, 1) := by decide +kernel
theorem dX9_planCost_86 : decode cX9_planCost 86 = .ok (.invokevirtual 297, 3) := by decide +kernel
theorem dX9_planCost_89 : decode cX9_planCost 89 = .ok (.iadd, 1) := by decide +kernel
theorem dX9_planCost_90 : decode cX9_planCost 90 = .ok (.istore_n 2, 1) := by decide +kernel
theorem dX9_planCost_91 : decode cX9_planCost 91 = .ok (.iinc 3 1, 3) := by decide +kernel
theorem dX9_planCost_94 : decode cX9_planCost 94 = .ok (.goto (-73), 3) := by decide +kernel
theorem dX9_planCost_97 : decode cX9_planCost 97 = .ok (.iload_n 2, 1) := by decide +kernel
theorem dX9_planCost_98 : decode cX9_planCost 98 = .ok (.ireturn, 1) := by decide +kernel
theorem dX9_meanRut_0 : decode cX9_meanRut 0 = .ok (.iload_n 1, 1) := by decide +kernel
theorem dX9_meanRut_1 : decode cX9_meanRut 1 = .ok (.aload_n 0, 1) := by decide +kernel
theorem dX9_meanRut_2 : decode cX9_meanRut 2 = .ok (.getfield 10, 3) := by decide +kernel
theorem dX9_meanRut_5 : decode cX9_meanRut 5 = .ok (.getfield 107, 3) := by decide +kernel
theorem dX9_meanRut_8 : decode cX9_meanRut 8 = .ok (.invokestatic 200, 3) := by decide +kernel
theorem dX9_meanRut_11 : decode cX9_meanRut 11 = .ok (.iconst 0, 1) := by decide +kernel
theorem dX9_meanRut_12 : decode cX9_meanRut 12 = .ok (.istore_n 2, 1) := by decide +kernel
theorem dX9_meanRut_13 : decode cX9_meanRut 13 = .ok (.iconst 0, 1) := by decide +kernel
theorem dX9_meanRut_14 : decode cX9_meanRut 14 = .ok (.istore_n 3, 1) := by decide +kernel
theorem dX9_meanRut_15 : decode cX9_meanRut 15 = .ok (.iload_n 3, 1) := by decide +kernel
theorem dX9_meanRut_16 : decode cX9_meanRut 16 = .ok (.aload_n 0, 1) := by decide +kernel
theorem dX9_meanRut_17 : decode cX9_meanRut 17 = .ok (.getfield 10, 3) := by decide +kernel
theorem dX9_meanRut_20 : decode cX9_meanRut 20 = .ok (.getfield 104, 3) := by decide +kernel
theorem dX9_meanRut_23 : decode cX9_meanRut 23 = .ok (.if_icmp .ge 29, 3) := by decide +kernel
theorem dX9_meanRut_26 : decode cX9_meanRut 26 = .ok (.iload_n 2, 1) := by decide +kernel
theorem dX9_meanRut_27 : decode cX9_meanRut 27 = .ok (.aload_n 0, 1) := by decide +kernel
theorem dX9_meanRut_28 : decode cX9_meanRut 28 = .ok (.getfield 10, 3) := by decide +kernel
theorem dX9_meanRut_31 : decode cX9_meanRut 31 = .ok (.getfield 166, 3) := by decide +kernel
theorem dX9_meanRut_34 : decode cX9_meanRut 34 = .ok (.aload_n 0, 1) := by decide +kernel
theorem dX9_meanRut_35 : decode cX9_meanRut 35 = .ok (.getfield 10, 3) := by decide +kernel
theorem dX9_meanRut_38 : decode cX9_meanRut 38 = .ok (.iload_n 3, 1) := by decide +kernel
theorem dX9_meanRut_39 : decode cX9_meanRut 39 = .ok (.iload_n 1, 1) := by decide +kernel
theorem dX9_meanRut_40 : decode cX9_meanRut 40 = .ok (.invokevirtual 253, 3) := by decide +kernel
theorem dX9_meanRut_43 : decode cX9_meanRut 43 = .ok (.iaload, 1) := by decide +kernel
theorem dX9_meanRut_44 : decode cX9_meanRut 44 = .ok (.iadd, 1) := by decide +kernel
theorem dX9_meanRut_45 : decode cX9_meanRut 45 = .ok (.istore_n 2, 1) := by decide +kernel
theorem dX9_meanRut_46 : decode cX9_meanRut 46 = .ok (.iinc 3 1, 3) := by decide +kernel
theorem dX9_meanRut_49 : decode cX9_meanRut 49 = .ok (.goto (-34), 3) := by decide +kernel
theorem dX9_meanRut_52 : decode cX9_meanRut 52 = .ok (.iconst 1, 1) := by decide +kernel
theorem dX9_meanRut_53 : decode cX9_meanRut 53 = .ok (.aload_n 0, 1) := by decide +kernel
theorem dX9_meanRut_54 : decode cX9_meanRut 54 = .ok (.getfield 10, 3) := by decide +kernel
theorem dX9_meanRut_57 : decode cX9_meanRut 57 = .ok (.getfield 104, 3) := by decide +kernel
theorem dX9_meanRut_60 : decode cX9_meanRut 60 = .ok (.invokestatic 311, 3) := by decide +kernel
theorem dX9_meanRut_63 : decode cX9_meanRut 63 = .ok (.i2d, 1) := by decide +kernel
theorem dX9_meanRut_64 : decode cX9_meanRut 64 = .ok (.dstore_n 3, 1) := by decide +kernel
theorem dX9_meanRut_65 : decode cX9_meanRut 65 = .ok (.iload_n 2, 1) := by decide +kernel
theorem dX9_meanRut_66 : decode cX9_meanRut 66 = .ok (.i2d, 1) := by decide +kernel
theorem dX9_meanRut_67 : decode cX9_meanRut 67 = .ok (.dload_n 3, 1) := by decide +kernel
theorem dX9_meanRut_68 : decode cX9_meanRut 68 = .ok (.ddiv, 1) := by decide +kernel
theorem dX9_meanRut_69 : decode cX9_meanRut 69 = .ok (.dreturn, 1) := by decide +kernel
theorem dX9_wornShare_0 : decode cX9_wornShare 0 = .ok (.aload_n 0, 1) := by decide +kernel
theorem dX9_wornShare_1 : decode cX9_wornShare 1 = .ok (.iload_n 1, 1) := by decide +kernel
theorem dX9_wornShare_2 : decode cX9_wornShare 2 = .ok (.invokevirtual 157, 3) := by decide +kernel
theorem dX9_wornShare_5 : decode cX9_wornShare 5 = .ok (.lconst 1, 1) := by decide +kernel
theorem dX9_wornShare_6 : decode cX9_wornShare 6 = .ok (.aload_n 0, 1) := by decide +kernel
theorem dX9_wornShare_7 : decode cX9_wornShare 7 = .ok (.getfield 10, 3) := by decide +kernel
theorem dX9_wornShare_10 : decode cX9_wornShare 10 = .ok (.aload_n 0, 1) := by decide +kernel
theorem dX9_wornShare_11 : decode cX9_wornShare 11 = .ok (.getfield 10, 3) := by decide +kernel
theorem dX9_wornShare_14 : decode cX9_wornShare 14 = .ok (.iload_n 1, 1) := by decide +kernel
theorem dX9_wornShare_15 : decode cX9_wornShare 15 = .ok (.invokevirtual 176, 3) := by decide +kernel
theorem dX9_wornShare_18 : decode cX9_wornShare 18 = .ok (.invokevirtual 196, 3) := by decide +kernel
theorem dX9_wornShare_21 : decode cX9_wornShare 21 = .ok (.invokestatic 314, 3) := by decide +kernel
theorem dX9_wornShare_24 : decode cX9_wornShare 24 = .ok (.l2f, 1) := by decide +kernel
theorem dX9_wornShare_25 : decode cX9_wornShare 25 = .ok (.fstore_n 2, 1) := by decide +kernel
theorem dX9_wornShare_26 : decode cX9_wornShare 26 = .ok (.aload_n 0, 1) := by decide +kernel
theorem dX9_wornShare_27 : decode cX9_wornShare 27 = .ok (.getfield 10, 3) := by decide +kernel
theorem dX9_wornShare_30 : decode cX9_wornShare 30 = .ok (.getfield 192, 3) := by decide +kernel
theorem dX9_wornShare_33 : decode cX9_wornShare 33 = .ok (.iload_n 1, 1) := by decide +kernel
theorem dX9_wornShare_34 : decode cX9_wornShare 34 = .ok (.laload, 1) := by decide +kernel
theorem dX9_wornShare_35 : decode cX9_wornShare 35 = .ok (.l2f, 1) := by decide +kernel
theorem dX9_wornShare_36 : decode cX9_wornShare 36 = .ok (.fload_n 2, 1) := by decide +kernel
theorem dX9_wornShare_37 : decode cX9_wornShare 37 = .ok (.fdiv, 1) := by decide +kernel
theorem dX9_wornShare_38 : decode cX9_wornShare 38 = .ok (.freturn, 1) := by decide +kernel
theorem dX9_pass_0 : decode cX9_pass 0 = .ok (.iload_n 1, 1) := by decide +kernel
theorem dX9_pass_1 : decode cX9_pass 1 = .ok (.invokestatic 256, 3) := by decide +kernel
theorem dX9_pass_4 : decode cX9_pass 4 = .ok (.aload_n 0, 1) := by decide +kernel
theorem dX9_pass_5 : decode cX9_pass 5 = .ok (.getfield 10, 3) := by decide +kernel
theorem dX9_pass_8 : decode cX9_pass 8 = .ok (.invokevirtual 90, 3) := by decide +kernel
theorem dX9_pass_11 : decode cX9_pass 11 = .ok (.ifCond .eq 18, 3) := by decide +kernel
theorem dX9_pass_14 : decode cX9_pass 14 = .ok (.aload_n 0, 1) := by decide +kernel
theorem dX9_pass_15 : decode cX9_pass 15 = .ok (.getfield 10, 3) := by decide +kernel
theorem dX9_pass_18 : decode cX9_pass 18 = .ok (.getfield 126, 3) := by decide +kernel
theorem dX9_pass_21 : decode cX9_pass 21 = .ok (.iload_n 1, 1) := by decide +kernel
theorem dX9_pass_22 : decode cX9_pass 22 = .ok (.iadd, 1) := by decide +kernel
theorem dX9_pass_23 : decode cX9_pass 23 = .ok (.sipush 500, 3) := by decide +kernel
theorem dX9_pass_26 : decode cX9_pass 26 = .ok (.if_icmp .le 14, 3) := by decide +kernel
theorem dX9_pass_29 : decode cX9_pass 29 = .ok (.new 317, 3) := by decide +kernel
theorem dX9_pass_32 : decode cX9_pass 32 = .ok (.dup, 1) := by decide +kernel
theorem dX9_pass_33 : decode cX9_pass 33 = .ok (.ldc_w 319, 3) := by decide +kernel
theorem dX9_pass_36 : decode cX9_pass 36 = .ok (.invokespecial 321, 3) := by decide +kernel
theorem dX9_pass_39 : decode cX9_pass 39 = .ok (.athrow, 1) := by decide +kernel
theorem dX9_pass_40 : decode cX9_pass 40 = .ok (.aload_n 0, 1) := by decide +kernel
theorem dX9_pass_41 : decode cX9_pass 41 = .ok (.getfield 22, 3) := by decide +kernel
theorem dX9_pass_44 : decode cX9_pass 44 = .ok (.aload_n 0, 1) := by decide +kernel
theorem dX9_pass_45 : decode cX9_pass 45 = .ok (.getfield 10, 3) := by decide +kernel
theorem dX9_pass_48 : decode cX9_pass 48 = .ok (.invokevirtual 322, 3) := by decide +kernel
theorem dX9_pass_51 : decode cX9_pass 51 = .ok (.aload_n 0, 1) := by decide +kernel
theorem dX9_pass_52 : decode cX9_pass 52 = .ok (.getfield 36, 3) := by decide +kernel
theorem dX9_pass_55 : decode cX9_pass 55 = .ok (.aload_n 0, 1) := by decide +kernel
theorem dX9_pass_56 : decode cX9_pass 56 = .ok (.getfield 10, 3) := by decide +kernel
theorem dX9_pass_59 : decode cX9_pass 59 = .ok (.iconst 0, 1) := by decide +kernel
theorem dX9_pass_60 : decode cX9_pass 60 = .ok (.iconst (-1), 1) := by decide +kernel
theorem dX9_pass_61 : decode cX9_pass 61 = .ok (.invokevirtual 235, 3) := by decide +kernel
theorem dX9_pass_64 : decode cX9_pass 64 = .ok (.iconst 0, 1) := by decide +kernel
theorem dX9_pass_65 : decode cX9_pass 65 = .ok (.istore_n 2, 1) := by decide +kernel
theorem dX9_pass_66 : decode cX9_pass 66 = .ok (.iload_n 2, 1) := by decide +kernel
theorem dX9_pass_67 : decode cX9_pass 67 = .ok (.aload_n 0, 1) := by decide +kernel
theorem dX9_pass_68 : decode cX9_pass 68 = .ok (.getfield 10, 3) := by decide +kernel
theorem dX9_pass_71 : decode cX9_pass 71 = .ok (.invokevirtual 90, 3) := by decide +kernel
theorem dX9_pass_74 : decode cX9_pass 74 = .ok (.if_icmp .ge 54, 3) := by decide +kernel
theorem dX9_pass_77 : decode cX9_pass 77 = .ok (.aload_n 0, 1) := by decide +kernel
theorem dX9_pass_78 : decode cX9_pass 78 = .ok (.getfield 36, 3) := by decide +kernel
theorem dX9_pass_81 : decode cX9_pass 81 = .ok (.aload_n 0, 1) := by decide +kernel
theorem dX9_pass_82 : decode cX9_pass 82 = .ok (.getfield 10, 3) := by decide +kernel
theorem dX9_pass_85 : decode cX9_pass 85 = .ok (.iload_n 2, 1) := by decide +kernel
theorem dX9_pass_86 : decode cX9_pass 86 = .ok (.iload_n 1, 1) := by decide +kernel
theorem dX9_pass_87 : decode cX9_pass 87 = .ok (.invokevirtual 259, 3) := by decide +kernel
theorem dX9_pass_90 : decode cX9_pass 90 = .ok (.aload_n 0, 1) := by decide +kernel
theorem dX9_pass_91 : decode cX9_pass 91 = .ok (.getfield 10, 3) := by decide +kernel
theorem dX9_pass_94 : decode cX9_pass 94 = .ok (.getfield 166, 3) := by decide +kernel
theorem dX9_pass_97 : decode cX9_pass 97 = .ok (.iload_n 2, 1) := by decide +kernel
theorem dX9_pass_98 : decode cX9_pass 98 = .ok (.aload_n 0, 1) := by decide +kernel
theorem dX9_pass_99 : decode cX9_pass 99 = .ok (.getfield 36, 3) := by decide +kernel
theorem dX9_pass_102 : decode cX9_pass 102 = .ok (.getfield 262, 3) := by decide +kernel
theorem dX9_pass_105 : decode cX9_pass 105 = .ok (.iastore, 1) := by decide +kernel
theorem dX9_pass_106 : decode cX9_pass 106 = .ok (.aload_n 0, 1) := by decide +kernel
theorem dX9_pass_107 : decode cX9_pass 107 = .ok (.getfield 10, 3) := by decide +kernel
theorem dX9_pass_110 : decode cX9_pass 110 = .ok (.getfield 192, 3) := by decide +kernel
theorem dX9_pass_113 : decode cX9_pass 113 = .ok (.iload_n 2, 1) := by decide +kernel
theorem dX9_pass_114 : decode cX9_pass 114 = .ok (.aload_n 0, 1) := by decide +kernel
theorem dX9_pass_115 : decode cX9_pass 115 = .ok (.getfield 36, 3) := by decide +kernel
theorem dX9_pass_118 : decode cX9_pass 118 = .ok (.getfield 265, 3) := by decide +kernel
theorem dX9_pass_121 : decode cX9_pass 121 = .ok (.lastore, 1) := by decide +kernel
theorem dX9_pass_122 : decode cX9_pass 122 = .ok (.iinc 2 1, 3) := by decide +kernel
theorem dX9_pass_125 : decode cX9_pass 125 = .ok (.goto (-59), 3) := by decide +kernel
theorem dX9_pass_128 : decode cX9_pass 128 = .ok (.iconst 0, 1) := by decide +kernel
theorem dX9_pass_129 : decode cX9_pass 129 = .ok (.istore_n 2, 1) := by decide +kernel
theorem dX9_pass_130 : decode cX9_pass 130 = .ok (.iload_n 2, 1) := by decide +kernel
theorem dX9_pass_131 : decode cX9_pass 131 = .ok (.aload_n 0, 1) := by decide +kernel
theorem dX9_pass_132 : decode cX9_pass 132 = .ok (.getfield 10, 3) := by decide +kernel
theorem dX9_pass_135 : decode cX9_pass 135 = .ok (.getfield 119, 3) := by decide +kernel
theorem dX9_pass_138 : decode cX9_pass 138 = .ok (.getfield 123, 3) := by decide +kernel
theorem dX9_pass_141 : decode cX9_pass 141 = .ok (.if_icmp .ge 32, 3) := by decide +kernel
theorem dX9_pass_144 : decode cX9_pass 144 = .ok (.aload_n 0, 1) := by decide +kernel
theorem dX9_pass_145 : decode cX9_pass 145 = .ok (.getfield 10, 3) := by decide +kernel
theorem dX9_pass_148 : decode cX9_pass 148 = .ok (.getfield 119, 3) := by decide +kernel
theorem dX9_pass_151 : decode cX9_pass 151 = .ok (.iload_n 2, 1) := by decide +kernel
theorem dX9_pass_152 : decode cX9_pass 152 = .ok (.aload_n 0, 1) := by decide +kernel
theorem dX9_pass_153 : decode cX9_pass 153 = .ok (.getfield 10, 3) := by decide +kernel
theorem dX9_pass_156 : decode cX9_pass 156 = .ok (.getfield 119, 3) := by decide +kernel
theorem dX9_pass_159 : decode cX9_pass 159 = .ok (.iload_n 2, 1) := by decide +kernel
theorem dX9_pass_160 : decode cX9_pass 160 = .ok (.iload_n 1, 1) := by decide +kernel
theorem dX9_pass_161 : decode cX9_pass 161 = .ok (.invokevirtual 267, 3) := by decide +kernel
theorem dX9_pass_164 : decode cX9_pass 164 = .ok (.invokevirtual 325, 3) := by decide +kernel
theorem dX9_pass_167 : decode cX9_pass 167 = .ok (.iinc 2 1, 3) := by decide +kernel
theorem dX9_pass_170 : decode cX9_pass 170 = .ok (.goto (-40), 3) := by decide +kernel
theorem dX9_pass_173 : decode cX9_pass 173 = .ok (.aload_n 0, 1) := by decide +kernel
theorem dX9_pass_174 : decode cX9_pass 174 = .ok (.getfield 10, 3) := by decide +kernel
theorem dX9_pass_177 : decode cX9_pass 177 = .ok (.dup, 1) := by decide +kernel
theorem dX9_pass_178 : decode cX9_pass 178 = .ok (.getfield 126, 3) := by decide +kernel
theorem dX9_pass_181 : decode cX9_pass 181 = .ok (.iload_n 1, 1) := by decide +kernel
theorem dX9_pass_182 : decode cX9_pass 182 = .ok (.iadd, 1) := by decide +kernel
theorem dX9_pass_183 : decode cX9_pass 183 = .ok (.putfield 126, 3) := by decide +kernel
theorem dX9_pass_186 : decode cX9_pass 186 = .ok (.aload_n 0, 1) := by decide +kernel
theorem dX9_pass_187 : decode cX9_pass 187 = .ok (.getfield 10, 3) := by decide +kernel
theorem dX9_pass_190 : decode cX9_pass 190 = .ok (.invokevirtual 135, 3) := by decide +kernel
theorem dX9_pass_193 : decode cX9_pass 193 = .ok (.ireturn, 1) := by decide +kernel
theorem dX9_drill_0 : decode cX9_drill 0 = .ok (.aload_n 0, 1) := by decide +kernel
theorem dX9_drill_1 : decode cX9_drill 1 = .ok (.iload_n 1, 1) := by decide +kernel
theorem dX9_drill_2 : decode cX9_drill 2 = .ok (.invokevirtual 157, 3) := by decide +kernel
theorem dX9_drill_5 : decode cX9_drill 5 = .ok (.iload_n 2, 1) := by decide +kernel
theorem dX9_drill_6 : decode cX9_drill 6 = .ok (.iload_n 3, 1) := by decide +kernel
theorem dX9_drill_7 : decode cX9_drill 7 = .ok (.invokestatic 328, 3) := by decide +kernel
theorem dX9_drill_10 : decode cX9_drill 10 = .ok (.aload_n 0, 1) := by decide +kernel
theorem dX9_drill_11 : decode cX9_drill 11 = .ok (.getfield 10, 3) := by decide +kernel
theorem dX9_drill_14 : decode cX9_drill 14 = .ok (.getfield 110, 3) := by decide +kernel
theorem dX9_drill_17 : decode cX9_drill 17 = .ok (.iload_n 1, 1) := by decide +kernel
theorem dX9_drill_18 : decode cX9_drill 18 = .ok (.invokevirtual 331, 3) := by decide +kernel
theorem dX9_drill_21 : decode cX9_drill 21 = .ok (.iconst (-1), 1) := by decide +kernel
theorem dX9_drill_22 : decode cX9_drill 22 = .ok (.if_icmp .ne 18, 3) := by decide +kernel
theorem dX9_drill_25 : decode cX9_drill 25 = .ok (.aload_n 0, 1) := by decide +kernel
theorem dX9_drill_26 : decode cX9_drill 26 = .ok (.getfield 10, 3) := by decide +kernel
theorem dX9_drill_29 : decode cX9_drill 29 = .ok (.getfield 110, 3) := by decide +kernel
theorem dX9_drill_32 : decode cX9_drill 32 = .ok (.getfield 114, 3) := by decide +kernel
theorem dX9_drill_35 : decode cX9_drill 35 = .ok (.bipush 12, 2) := by decide +kernel
theorem dX9_drill_37 : decode cX9_drill 37 = .ok (.if_icmp .lt 14, 3) := by decide +kernel
theorem dX9_drill_40 : decode cX9_drill 40 = .ok (.new 317, 3) := by decide +kernel
theorem dX9_drill_43 : decode cX9_drill 43 = .ok (.dup, 1) := by decide +kernel
theorem dX9_drill_44 : decode cX9_drill 44 = .ok (.ldc_w 334, 3) := by decide +kernel
theorem dX9_drill_47 : decode cX9_drill 47 = .ok (.invokespecial 321, 3) := by decide +kernel
theorem dX9_drill_50 : decode cX9_drill 50 = .ok (.athrow, 1) := by decide +kernel
theorem dX9_drill_51 : decode cX9_drill 51 = .ok (.aload_n 0, 1) := by decide +kernel
theorem dX9_drill_52 : decode cX9_drill 52 = .ok (.getfield 22, 3) := by decide +kernel
theorem dX9_drill_55 : decode cX9_drill 55 = .ok (.aload_n 0, 1) := by decide +kernel
theorem dX9_drill_56 : decode cX9_drill 56 = .ok (.getfield 10, 3) := by decide +kernel
theorem dX9_drill_59 : decode cX9_drill 59 = .ok (.invokevirtual 322, 3) := by decide +kernel
theorem dX9_drill_62 : decode cX9_drill 62 = .ok (.aload_n 0, 1) := by decide +kernel
theorem dX9_drill_63 : decode cX9_drill 63 = .ok (.getfield 10, 3) := by decide +kernel
theorem dX9_drill_66 : decode cX9_drill 66 = .ok (.getfield 110, 3) := by decide +kernel
theorem dX9_drill_69 : decode cX9_drill 69 = .ok (.iload_n 1, 1) := by decide +kernel
theorem dX9_drill_70 : decode cX9_drill 70 = .ok (.invokevirtual 336, 3) := by decide +kernel
theorem dX9_drill_73 : decode cX9_drill 73 = .ok (.istore 4, 2) := by decide +kernel
theorem dX9_drill_75 : decode cX9_drill 75 = .ok (.aload_n 0, 1) := by decide +kernel
theorem dX9_drill_76 : decode cX9_drill 76 = .ok (.getfield 10, 3) := by decide +kernel
theorem dX9_drill_79 : decode cX9_drill 79 = .ok (.getfield 110, 3) := by decide +kernel
theorem dX9_drill_82 : decode cX9_drill 82 = .ok (.iload 4, 2) := by decide +kernel
theorem dX9_drill_84 : decode cX9_drill 84 = .ok (.iload_n 2, 1) := by decide +kernel
theorem dX9_drill_85 : decode cX9_drill 85 = .ok (.iload_n 3, 1) := by decide +kernel
theorem dX9_drill_86 : decode cX9_drill 86 = .ok (.invokevirtual 339, 3) := by decide +kernel
theorem dX9_drill_89 : decode cX9_drill 89 = .ok (.iload 4, 2) := by decide +kernel
theorem dX9_drill_91 : decode cX9_drill 91 = .ok (.ireturn, 1) := by decide +kernel
theorem dX9_addLayer_0 : decode cX9_addLayer 0 = .ok (.iload_n 1, 1) := by decide +kernel
theorem dX9_addLayer_1 : decode cX9_addLayer 1 = .ok (.aload_n 0, 1) := by decide +kernel
theorem dX9_addLayer_2 : decode cX9_addLayer 2 = .ok (.getfield 10, 3) := by decide +kernel
theorem dX9_addLayer_5 : decode cX9_addLayer 5 = .ok (.getfield 110, 3) := by decide +kernel
theorem dX9_addLayer_8 : decode cX9_addLayer 8 = .ok (.getfield 114, 3) := by decide +kernel
theorem dX9_addLayer_11 : decode cX9_addLayer 11 = .ok (.invokestatic 200, 3) := by decide +kernel
theorem dX9_addLayer_14 : decode cX9_addLayer 14 = .ok (.iload_n 2, 1) := by decide +kernel
theorem dX9_addLayer_15 : decode cX9_addLayer 15 = .ok (.iload_n 3, 1) := by decide +kernel
theorem dX9_addLayer_16 : decode cX9_addLayer 16 = .ok (.invokestatic 328, 3) := by decide +kernel
theorem dX9_addLayer_19 : decode cX9_addLayer 19 = .ok (.aload_n 0, 1) := by decide +kernel
theorem dX9_addLayer_20 : decode cX9_addLayer 20 = .ok (.getfield 10, 3) := by decide +kernel
theorem dX9_addLayer_23 : decode cX9_addLayer 23 = .ok (.getfield 110, 3) := by decide +kernel
theorem dX9_addLayer_26 : decode cX9_addLayer 26 = .ok (.getfield 179, 3) := by decide +kernel
theorem dX9_addLayer_29 : decode cX9_addLayer 29 = .ok (.iload_n 1, 1) := by decide +kernel
theorem dX9_addLayer_30 : decode cX9_addLayer 30 = .ok (.iaload, 1) := by decide +kernel
theorem dX9_addLayer_31 : decode cX9_addLayer 31 = .ok (.iconst 4, 1) := by decide +kernel
theorem dX9_addLayer_32 : decode cX9_addLayer 32 = .ok (.if_icmp .lt 14, 3) := by decide +kernel
theorem dX9_addLayer_35 : decode cX9_addLayer 35 = .ok (.new 317, 3) := by decide +kernel
theorem dX9_addLayer_38 : decode cX9_addLayer 38 = .ok (.dup, 1) := by decide +kernel
theorem dX9_addLayer_39 : decode cX9_addLayer 39 = .ok (.ldc_w 342, 3) := by decide +kernel
theorem dX9_addLayer_42 : decode cX9_addLayer 42 = .ok (.invokespecial 321, 3) := by decide +kernel
theorem dX9_addLayer_45 : decode cX9_addLayer 45 = .ok (.athrow, 1) := by decide +kernel
theorem dX9_addLayer_46 : decode cX9_addLayer 46 = .ok (.aload_n 0, 1) := by decide +kernel
theorem dX9_addLayer_47 : decode cX9_addLayer 47 = .ok (.getfield 22, 3) := by decide +kernel
theorem dX9_addLayer_50 : decode cX9_addLayer 50 = .ok (.aload_n 0, 1) := by decide +kernel
theorem dX9_addLayer_51 : decode cX9_addLayer 51 = .ok (.getfield 10, 3) := by decide +kernel
theorem dX9_addLayer_54 : decode cX9_addLayer 54 = .ok (.invokevirtual 322, 3) := by decide +kernel
theorem dX9_addLayer_57 : decode cX9_addLayer 57 = .ok (.aload_n 0, 1) := by decide +kernel
theorem dX9_addLayer_58 : decode cX9_addLayer 58 = .ok (.getfield 10, 3) := by decide +kernel
theorem dX9_addLayer_61 : decode cX9_addLayer 61 = .ok (.getfield 110, 3) := by decide +kernel
theorem dX9_addLayer_64 : decode cX9_addLayer 64 = .ok (.iload_n 1, 1) := by decide +kernel
theorem dX9_addLayer_65 : decode cX9_addLayer 65 = .ok (.iload_n 2, 1) := by decide +kernel
theorem dX9_addLayer_66 : decode cX9_addLayer 66 = .ok (.iload_n 3, 1) := by decide +kernel
theorem dX9_addLayer_67 : decode cX9_addLayer 67 = .ok (.invokevirtual 339, 3) := by decide +kernel
theorem dX9_addLayer_70 : decode cX9_addLayer 70 = .ok (.aload_n 0, 1) := by decide +kernel
theorem dX9_addLayer_71 : decode cX9_addLayer 71 = .ok (.getfield 10, 3) := by decide +kernel
theorem dX9_addLayer_74 : decode cX9_addLayer 74 = .ok (.getfield 110, 3) := by decide +kernel
theorem dX9_addLayer_77 : decode cX9_addLayer 77 = .ok (.getfield 179, 3) := by decide +kernel
theorem dX9_addLayer_80 : decode cX9_addLayer 80 = .ok (.iload_n 1, 1) := by decide +kernel
theorem dX9_addLayer_81 : decode cX9_addLayer 81 = .ok (.iaload, 1) := by decide +kernel
theorem dX9_addLayer_82 : decode cX9_addLayer 82 = .ok (.ireturn, 1) := by decide +kernel
theorem dX9_discard_0 : decode cX9_discard 0 = .ok (.iload_n 1, 1) := by decide +kernel
theorem dX9_discard_1 : decode cX9_discard 1 = .ok (.aload_n 0, 1) := by decide +kernel
theorem dX9_discard_2 : decode cX9_discard 2 = .ok (.getfield 10, 3) := by decide +kernel
theorem dX9_discard_5 : decode cX9_discard 5 = .ok (.getfield 110, 3) := by decide +kernel
theorem dX9_discard_8 : decode cX9_discard 8 = .ok (.getfield 114, 3) := by decide +kernel
theorem dX9_discard_11 : decode cX9_discard 11 = .ok (.invokestatic 200, 3) := by decide +kernel
theorem dX9_discard_14 : decode cX9_discard 14 = .ok (.aload_n 0, 1) := by decide +kernel
theorem dX9_discard_15 : decode cX9_discard 15 = .ok (.getfield 22, 3) := by decide +kernel
theorem dX9_discard_18 : decode cX9_discard 18 = .ok (.aload_n 0, 1) := by decide +kernel
theorem dX9_discard_19 : decode cX9_discard 19 = .ok (.getfield 10, 3) := by decide +kernel
theorem dX9_discard_22 : decode cX9_discard 22 = .ok (.invokevirtual 322, 3) := by decide +kernel
theorem dX9_discard_25 : decode cX9_discard 25 = .ok (.aload_n 0, 1) := by decide +kernel
theorem dX9_discard_26 : decode cX9_discard 26 = .ok (.getfield 10, 3) := by decide +kernel
theorem dX9_discard_29 : decode cX9_discard 29 = .ok (.getfield 110, 3) := by decide +kernel
theorem dX9_discard_32 : decode cX9_discard 32 = .ok (.iload_n 1, 1) := by decide +kernel
theorem dX9_discard_33 : decode cX9_discard 33 = .ok (.invokevirtual 344, 3) := by decide +kernel
theorem dX9_discard_36 : decode cX9_discard 36 = .ok (.aload_n 0, 1) := by decide +kernel
theorem dX9_discard_37 : decode cX9_discard 37 = .ok (.getfield 10, 3) := by decide +kernel
theorem dX9_discard_40 : decode cX9_discard 40 = .ok (.getfield 110, 3) := by decide +kernel
theorem dX9_discard_43 : decode cX9_discard 43 = .ok (.getfield 114, 3) := by decide +kernel
theorem dX9_discard_46 : decode cX9_discard 46 = .ok (.ireturn, 1) := by decide +kernel
theorem dX9_measure_0 : decode cX9_measure 0 = .ok (.aload_n 0, 1) := by decide +kernel
theorem dX9_measure_1 : decode cX9_measure 1 = .ok (.iload_n 1, 1) := by decide +kernel
theorem dX9_measure_2 : decode cX9_measure 2 = .ok (.invokevirtual 157, 3) := by decide +kernel
theorem dX9_measure_5 : decode cX9_measure 5 = .ok (.iload_n 2, 1) := by decide +kernel
theorem dX9_measure_6 : decode cX9_measure 6 = .ok (.iconst 0, 1) := by decide +kernel
theorem dX9_measure_7 : decode cX9_measure 7 = .ok (.sipush 9999, 3) := by decide +kernel
theorem dX9_measure_10 : decode cX9_measure 10 = .ok (.invokestatic 100, 3) := by decide +kernel
theorem dX9_measure_13 : decode cX9_measure 13 = .ok (.aload_n 0, 1) := by decide +kernel
theorem dX9_measure_14 : decode cX9_measure 14 = .ok (.getfield 22, 3) := by decide +kernel
theorem dX9_measure_17 : decode cX9_measure 17 = .ok (.aload_n 0, 1) := by decide +kernel
theorem dX9_measure_18 : decode cX9_measure 18 = .ok (.getfield 10, 3) := by decide +kernel
theorem dX9_measure_21 : decode cX9_measure 21 = .ok (.invokevirtual 322, 3) := by decide +kernel
theorem dX9_measure_24 : decode cX9_measure 24 = .ok (.aload_n 0, 1) := by decide +kernel
theorem dX9_measure_25 : decode cX9_measure 25 = .ok (.getfield 10, 3) := by decide +kernel
theorem dX9_measure_28 : decode cX9_measure 28 = .ok (.getfield 166, 3) := by decide +kernel
theorem dX9_measure_31 : decode cX9_measure 31 = .ok (.iload_n 1, 1) := by decide +kernel
theorem dX9_measure_32 : decode cX9_measure 32 = .ok (.iaload, 1) := by decide +kernel
theorem dX9_measure_33 : decode cX9_measure 33 = .ok (.istore_n 3, 1) := by decide +kernel
theorem dX9_measure_34 : decode cX9_measure 34 = .ok (.aload_n 0, 1) := by decide +kernel
theorem dX9_measure_35 : decode cX9_measure 35 = .ok (.getfield 10, 3) := by decide +kernel
theorem dX9_measure_38 : decode cX9_measure 38 = .ok (.getfield 166, 3) := by decide +kernel
theorem dX9_measure_41 : decode cX9_measure 41 = .ok (.iload_n 1, 1) := by decide +kernel
theorem dX9_measure_42 : decode cX9_measure 42 = .ok (.iload_n 2, 1) := by decide +kernel
theorem dX9_measure_43 : decode cX9_measure 43 = .ok (.iastore, 1) := by decide +kernel
theorem dX9_measure_44 : decode cX9_measure 44 = .ok (.iload_n 3, 1) := by decide +kernel
theorem dX9_measure_45 : decode cX9_measure 45 = .ok (.ireturn, 1) := by decide +kernel
theorem dX9_addLoad_0 : decode cX9_addLoad 0 = .ok (.iload_n 1, 1) := by decide +kernel
theorem dX9_addLoad_1 : decode cX9_addLoad 1 = .ok (.aload_n 0, 1) := by decide +kernel
theorem dX9_addLoad_2 : decode cX9_addLoad 2 = .ok (.getfield 10, 3) := by decide +kernel
theorem dX9_addLoad_5 : decode cX9_addLoad 5 = .ok (.getfield 107, 3) := by decide +kernel
theorem dX9_addLoad_8 : decode cX9_addLoad 8 = .ok (.invokestatic 200, 3) := by decide +kernel
theorem dX9_addLoad_11 : decode cX9_addLoad 11 = .ok (.iload_n 2, 1) := by decide +kernel
theorem dX9_addLoad_12 : decode cX9_addLoad 12 = .ok (.aload_n 0, 1) := by decide +kernel
theorem dX9_addLoad_13 : decode cX9_addLoad 13 = .ok (.getfield 10, 3) := by decide +kernel
theorem dX9_addLoad_16 : decode cX9_addLoad 16 = .ok (.getfield 104, 3) := by decide +kernel
theorem dX9_addLoad_19 : decode cX9_addLoad 19 = .ok (.invokestatic 200, 3) := by decide +kernel
theorem dX9_addLoad_22 : decode cX9_addLoad 22 = .ok (.iload_n 3, 1) := by decide +kernel
theorem dX9_addLoad_23 : decode cX9_addLoad 23 = .ok (.aload_n 0, 1) := by decide +kernel
theorem dX9_addLoad_24 : decode cX9_addLoad 24 = .ok (.getfield 10, 3) := by decide +kernel
theorem dX9_addLoad_27 : decode cX9_addLoad 27 = .ok (.getfield 104, 3) := by decide +kernel
theorem dX9_addLoad_30 : decode cX9_addLoad 30 = .ok (.invokestatic 200, 3) := by decide +kernel
theorem dX9_addLoad_33 : decode cX9_addLoad 33 = .ok (.iload_n 3, 1) := by decide +kernel
theorem dX9_addLoad_34 : decode cX9_addLoad 34 = .ok (.iload_n 2, 1) := by decide +kernel
theorem dX9_addLoad_35 : decode cX9_addLoad 35 = .ok (.aload_n 0, 1) := by decide +kernel
theorem dX9_addLoad_36 : decode cX9_addLoad 36 = .ok (.getfield 10, 3) := by decide +kernel
theorem dX9_addLoad_39 : decode cX9_addLoad 39 = .ok (.getfield 104, 3) := by decide +kernel
theorem dX9_addLoad_42 : decode cX9_addLoad 42 = .ok (.iconst 1, 1) := by decide +kernel
theorem dX9_addLoad_43 : decode cX9_addLoad 43 = .ok (.isub, 1) := by decide +kernel
theorem dX9_addLoad_44 : decode cX9_addLoad 44 = .ok (.invokestatic 100, 3) := by decide +kernel
theorem dX9_addLoad_47 : decode cX9_addLoad 47 = .ok (.iload 4, 2) := by decide +kernel
theorem dX9_addLoad_49 : decode cX9_addLoad 49 = .ok (.iconst 1, 1) := by decide +kernel
theorem dX9_addLoad_50 : decode cX9_addLoad 50 = .ok (.bipush 30, 2) := by decide +kernel
theorem dX9_addLoad_52 : decode cX9_addLoad 52 = .ok (.invokestatic 100, 3) := by decide +kernel
theorem dX9_addLoad_55 : decode cX9_addLoad 55 = .ok (.iload 5, 2) := by decide +kernel
theorem dX9_addLoad_57 : decode cX9_addLoad 57 = .ok (.iconst 0, 1) := by decide +kernel
theorem dX9_addLoad_58 : decode cX9_addLoad 58 = .ok (.ldc_w 347, 3) := by decide +kernel
theorem dX9_addLoad_61 : decode cX9_addLoad 61 = .ok (.invokestatic 100, 3) := by decide +kernel
theorem dX9_addLoad_64 : decode cX9_addLoad 64 = .ok (.iload 6, 2) := by decide +kernel
theorem dX9_addLoad_66 : decode cX9_addLoad 66 = .ok (.iconst 0, 1) := by decide +kernel
theorem dX9_addLoad_67 : decode cX9_addLoad 67 = .ok (.bipush 20, 2) := by decide +kernel
theorem dX9_addLoad_69 : decode cX9_addLoad 69 = .ok (.invokestatic 100, 3) := by decide +kernel
theorem dX9_addLoad_72 : decode cX9_addLoad 72 = .ok (.aload_n 0, 1) := by decide +kernel
theorem dX9_addLoad_73 : decode cX9_addLoad 73 = .ok (.getfield 10, 3) := by decide +kernel
theorem dX9_addLoad_76 : decode cX9_addLoad 76 = .ok (.getfield 119, 3) := by decide +kernel
theorem dX9_addLoad_79 : decode cX9_addLoad 79 = .ok (.getfield 123, 3) := by decide +kernel
theorem dX9_addLoad_82 : decode cX9_addLoad 82 = .ok (.bipush 10, 2) := by decide +kernel
theorem dX9_addLoad_84 : decode cX9_addLoad 84 = .ok (.if_icmp .lt 14, 3) := by decide +kernel
theorem dX9_addLoad_87 : decode cX9_addLoad 87 = .ok (.new 317, 3) := by decide +kernel
theorem dX9_addLoad_90 : decode cX9_addLoad 90 = .ok (.dup, 1) := by decide +kernel
theorem dX9_addLoad_91 : decode cX9_addLoad 91 = .ok (.ldc_w 348, 3) := by decide +kernel
theorem dX9_addLoad_94 : decode cX9_addLoad 94 = .ok (.invokespecial 321, 3) := by decide +kernel
theorem dX9_addLoad_97 : decode cX9_addLoad 97 = .ok (.athrow, 1) := by decide +kernel
theorem dX9_addLoad_98 : decode cX9_addLoad 98 = .ok (.aload_n 0, 1) := by decide +kernel
theorem dX9_addLoad_99 : decode cX9_addLoad 99 = .ok (.getfield 22, 3) := by decide +kernel
theorem dX9_addLoad_102 : decode cX9_addLoad 102 = .ok (.aload_n 0, 1) := by decide +kernel
theorem dX9_addLoad_103 : decode cX9_addLoad 103 = .ok (.getfield 10, 3) := by decide +kernel
theorem dX9_addLoad_106 : decode cX9_addLoad 106 = .ok (.invokevirtual 322, 3) := by decide +kernel
theorem dX9_addLoad_109 : decode cX9_addLoad 109 = .ok (.aload_n 0, 1) := by decide +kernel
theorem dX9_addLoad_110 : decode cX9_addLoad 110 = .ok (.getfield 10, 3) := by decide +kernel
theorem dX9_addLoad_113 : decode cX9_addLoad 113 = .ok (.getfield 119, 3) := by decide +kernel
theorem dX9_addLoad_116 : decode cX9_addLoad 116 = .ok (.iload_n 1, 1) := by decide +kernel
theorem dX9_addLoad_117 : decode cX9_addLoad 117 = .ok (.iload_n 2, 1) := by decide +kernel
theorem dX9_addLoad_118 : decode cX9_addLoad 118 = .ok (.iload_n 3, 1) := by decide +kernel
theorem dX9_addLoad_119 : decode cX9_addLoad 119 = .ok (.iload 4, 2) := by decide +kernel
theorem dX9_addLoad_121 : decode cX9_addLoad 121 = .ok (.iload 5, 2) := by decide +kernel
theorem dX9_addLoad_123 : decode cX9_addLoad 123 = .ok (.iload 6, 2) := by decide +kernel
theorem dX9_addLoad_125 : decode cX9_addLoad 125 = .ok (.invokevirtual 350, 3) := by decide +kernel
theorem dX9_addLoad_128 : decode cX9_addLoad 128 = .ok (.ireturn, 1) := by decide +kernel
theorem dX9_removeLoad_0 : decode cX9_removeLoad 0 = .ok (.iload_n 1, 1) := by decide +kernel
theorem dX9_removeLoad_1 : decode cX9_removeLoad 1 = .ok (.aload_n 0, 1) := by decide +kernel
theorem dX9_removeLoad_2 : decode cX9_removeLoad 2 = .ok (.getfield 10, 3) := by decide +kernel
theorem dX9_removeLoad_5 : decode cX9_removeLoad 5 = .ok (.getfield 119, 3) := by decide +kernel
theorem dX9_removeLoad_8 : decode cX9_removeLoad 8 = .ok (.getfield 123, 3) := by decide +kernel
theorem dX9_removeLoad_11 : decode cX9_removeLoad 11 = .ok (.invokestatic 200, 3) := by decide +kernel
theorem dX9_removeLoad_14 : decode cX9_removeLoad 14 = .ok (.aload_n 0, 1) := by decide +kernel
theorem dX9_removeLoad_15 : decode cX9_removeLoad 15 = .ok (.getfield 22, 3) := by decide +kernel
theorem dX9_removeLoad_18 : decode cX9_removeLoad 18 = .ok (.aload_n 0, 1) := by decide +kernel
theorem dX9_removeLoad_19 : decode cX9_removeLoad 19 = .ok (.getfield 10, 3) := by decide +kernel
theorem dX9_removeLoad_22 : decode cX9_removeLoad 22 = .ok (.invokevirtual 322, 3) := by decide +kernel
theorem dX9_removeLoad_25 : decode cX9_removeLoad 25 = .ok (.aload_n 0, 1) := by decide +kernel
theorem dX9_removeLoad_26 : decode cX9_removeLoad 26 = .ok (.getfield 10, 3) := by decide +kernel
theorem dX9_removeLoad_29 : decode cX9_removeLoad 29 = .ok (.getfield 119, 3) := by decide +kernel
theorem dX9_removeLoad_32 : decode cX9_removeLoad 32 = .ok (.iload_n 1, 1) := by decide +kernel
theorem dX9_removeLoad_33 : decode cX9_removeLoad 33 = .ok (.invokevirtual 354, 3) := by decide +kernel
theorem dX9_removeLoad_36 : decode cX9_removeLoad 36 = .ok (.aload_n 0, 1) := by decide +kernel
theorem dX9_removeLoad_37 : decode cX9_removeLoad 37 = .ok (.getfield 10, 3) := by decide +kernel
theorem dX9_removeLoad_40 : decode cX9_removeLoad 40 = .ok (.getfield 119, 3) := by decide +kernel
theorem dX9_removeLoad_43 : decode cX9_removeLoad 43 = .ok (.getfield 123, 3) := by decide +kernel
theorem dX9_removeLoad_46 : decode cX9_removeLoad 46 = .ok (.ireturn, 1) := by decide +kernel
theorem dX9_setCount_0 : decode cX9_setCount 0 = .ok (.iload_n 1, 1) := by decide +kernel
theorem dX9_setCount_1 : decode cX9_setCount 1 = .ok (.aload_n 0, 1) := by decide +kernel
theorem dX9_setCount_2 : decode cX9_setCount 2 = .ok (.getfield 10, 3) := by decide +kernel
theorem dX9_setCount_5 : decode cX9_setCount 5 = .ok (.getfield 119, 3) := by decide +kernel
theorem dX9_setCount_8 : decode cX9_setCount 8 = .ok (.getfield 123, 3) := by decide +kernel
theorem dX9_setCount_11 : decode cX9_setCount 11 = .ok (.invokestatic 200, 3) := by decide +kernel
theorem dX9_setCount_14 : decode cX9_setCount 14 = .ok (.iload_n 2, 1) := by decide +kernel
theorem dX9_setCount_15 : decode cX9_setCount 15 = .ok (.iconst 0, 1) := by decide +kernel
theorem dX9_setCount_16 : decode cX9_setCount 16 = .ok (.ldc_w 347, 3) := by decide +kernel
theorem dX9_setCount_19 : decode cX9_setCount 19 = .ok (.invokestatic 100, 3) := by decide +kernel
theorem dX9_setCount_22 : decode cX9_setCount 22 = .ok (.aload_n 0, 1) := by decide +kernel
theorem dX9_setCount_23 : decode cX9_setCount 23 = .ok (.getfield 22, 3) := by decide +kernel
theorem dX9_setCount_26 : decode cX9_setCount 26 = .ok (.aload_n 0, 1) := by decide +kernel
theorem dX9_setCount_27 : decode cX9_setCount 27 = .ok (.getfield 10, 3) := by decide +kernel
theorem dX9_setCount_30 : decode cX9_setCount 30 = .ok (.invokevirtual 322, 3) := by decide +kernel
theorem dX9_setCount_33 : decode cX9_setCount 33 = .ok (.aload_n 0, 1) := by decide +kernel
theorem dX9_setCount_34 : decode cX9_setCount 34 = .ok (.getfield 10, 3) := by decide +kernel
theorem dX9_setCount_37 : decode cX9_setCount 37 = .ok (.getfield 119, 3) := by decide +kernel
theorem dX9_setCount_40 : decode cX9_setCount 40 = .ok (.iload_n 1, 1) := by decide +kernel
theorem dX9_setCount_41 : decode cX9_setCount 41 = .ok (.iconst 4, 1) := by decide +kernel
theorem dX9_setCount_42 : decode cX9_setCount 42 = .ok (.invokevirtual 218, 3) := by decide +kernel
theorem dX9_setCount_45 : decode cX9_setCount 45 = .ok (.istore_n 3, 1) := by decide +kernel
theorem dX9_setCount_46 : decode cX9_setCount 46 = .ok (.aload_n 0, 1) := by decide +kernel
theorem dX9_setCount_47 : decode cX9_setCount 47 = .ok (.getfield 10, 3) := by decide +kernel
theorem dX9_setCount_50 : decode cX9_setCount 50 = .ok (.getfield 119, 3) := by decide +kernel
theorem dX9_setCount_53 : decode cX9_setCount 53 = .ok (.iload_n 1, 1) := by decide +kernel
theorem dX9_setCount_54 : decode cX9_setCount 54 = .ok (.iload_n 2, 1) := by decide +kernel
theorem dX9_setCount_55 : decode cX9_setCount 55 = .ok (.invokevirtual 325, 3) := by decide +kernel
theorem dX9_setCount_58 : decode cX9_setCount 58 = .ok (.iload_n 3, 1) := by decide +kernel
theorem dX9_setCount_59 : decode cX9_setCount 59 = .ok (.ireturn, 1) := by decide +kernel
theorem dX9_close_0 : decode cX9_close 0 = .ok (.iload_n 1, 1) := by decide +kernel
theorem dX9_close_1 : decode cX9_close 1 = .ok (.aload_n 0, 1) := by decide +kernel
theorem dX9_close_2 : decode cX9_close 2 = .ok (.getfield 10, 3) := by decide +kernel
theorem dX9_close_5 : decode cX9_close 5 = .ok (.getfield 107, 3) := by decide +kernel
theorem dX9_close_8 : decode cX9_close 8 = .ok (.invokestatic 200, 3) := by decide +kernel
theorem dX9_close_11 : decode cX9_close 11 = .ok (.aload_n 0, 1) := by decide +kernel
theorem dX9_close_12 : decode cX9_close 12 = .ok (.getfield 22, 3) := by decide +kernel
theorem dX9_close_15 : decode cX9_close 15 = .ok (.aload_n 0, 1) := by decide +kernel
theorem dX9_close_16 : decode cX9_close 16 = .ok (.getfield 10, 3) := by decide +kernel
theorem dX9_close_19 : decode cX9_close 19 = .ok (.invokevirtual 322, 3) := by decide +kernel
theorem dX9_close_22 : decode cX9_close 22 = .ok (.aload_n 0, 1) := by decide +kernel
theorem dX9_close_23 : decode cX9_close 23 = .ok (.getfield 10, 3) := by decide +kernel
theorem dX9_close_26 : decode cX9_close 26 = .ok (.iload_n 1, 1) := by decide +kernel
theorem dX9_close_27 : decode cX9_close 27 = .ok (.invokevirtual 270, 3) := by decide +kernel
theorem dX9_close_30 : decode cX9_close 30 = .ok (.istore_n 3, 1) := by decide +kernel
theorem dX9_close_31 : decode cX9_close 31 = .ok (.aload_n 0, 1) := by decide +kernel
theorem dX9_close_32 : decode cX9_close 32 = .ok (.getfield 10, 3) := by decide +kernel
theorem dX9_close_35 : decode cX9_close 35 = .ok (.iload_n 1, 1) := by decide +kernel
theorem dX9_close_36 : decode cX9_close 36 = .ok (.iload_n 2, 1) := by decide +kernel
theorem dX9_close_37 : decode cX9_close 37 = .ok (.invokevirtual 355, 3) := by decide +kernel
theorem dX9_close_40 : decode cX9_close 40 = .ok (.iload_n 3, 1) := by decide +kernel
theorem dX9_close_41 : decode cX9_close 41 = .ok (.ireturn, 1) := by decide +kernel
theorem dX9_patch_0 : decode cX9_patch 0 = .ok (.aload_n 0, 1) := by decide +kernel
theorem dX9_patch_1 : decode cX9_patch 1 = .ok (.iload_n 1, 1) := by decide +kernel
theorem dX9_patch_2 : decode cX9_patch 2 = .ok (.iload_n 2, 1) := by decide +kernel
theorem dX9_patch_3 : decode cX9_patch 3 = .ok (.iload_n 3, 1) := by decide +kernel
theorem dX9_patch_4 : decode cX9_patch 4 = .ok (.invokevirtual 294, 3) := by decide +kernel
theorem dX9_patch_7 : decode cX9_patch 7 = .ok (.aload_n 0, 1) := by decide +kernel
theorem dX9_patch_8 : decode cX9_patch 8 = .ok (.getfield 43, 3) := by decide +kernel
theorem dX9_patch_11 : decode cX9_patch 11 = .ok (.aload_n 0, 1) := by decide +kernel
theorem dX9_patch_12 : decode cX9_patch 12 = .ok (.getfield 10, 3) := by decide +kernel
theorem dX9_patch_15 : decode cX9_patch 15 = .ok (.iload_n 1, 1) := by decide +kernel
theorem dX9_patch_16 : decode cX9_patch 16 = .ok (.iload_n 2, 1) := by decide +kernel
theorem dX9_patch_17 : decode cX9_patch 17 = .ok (.iload_n 3, 1) := by decide +kernel
theorem dX9_patch_18 : decode cX9_patch 18 = .ok (.invokevirtual 301, 3) := by decide +kernel
theorem dX9_patch_21 : decode cX9_patch 21 = .ok (.istore 4, 2) := by decide +kernel
theorem dX9_patch_23 : decode cX9_patch 23 = .ok (.iload 4, 2) := by decide +kernel
theorem dX9_patch_25 : decode cX9_patch 25 = .ok (.ifCond .eq 7, 3) := by decide +kernel
theorem dX9_patch_28 : decode cX9_patch 28 = .ok (.iload 4, 2) := by decide +kernel
theorem dX9_patch_30 : decode cX9_patch 30 = .ok (.ineg, 1) := by decide +kernel
theorem dX9_patch_31 : decode cX9_patch 31 = .ok (.ireturn, 1) := by decide +kernel
theorem dX9_patch_32 : decode cX9_patch 32 = .ok (.aload_n 0, 1) := by decide +kernel
theorem dX9_patch_33 : decode cX9_patch 33 = .ok (.getfield 22, 3) := by decide +kernel
theorem dX9_patch_36 : decode cX9_patch 36 = .ok (.aload_n 0, 1) := by decide +kernel
theorem dX9_patch_37 : decode cX9_patch 37 = .ok (.getfield 10, 3) := by decide +kernel
theorem dX9_patch_40 : decode cX9_patch 40 = .ok (.invokevirtual 322, 3) := by decide +kernel
theorem dX9_patch_43 : decode cX9_patch 43 = .ok (.aload_n 0, 1) := by decide +kernel
theorem dX9_patch_44 : decode cX9_patch 44 = .ok (.getfield 43, 3) := by decide +kernel
theorem dX9_patch_47 : decode cX9_patch 47 = .ok (.aload_n 0, 1) := by decide +kernel
theorem dX9_patch_48 : decode cX9_patch 48 = .ok (.getfield 10, 3) := by decide +kernel
theorem dX9_patch_51 : decode cX9_patch 51 = .ok (.iload_n 1, 1) := by decide +kernel
theorem dX9_patch_52 : decode cX9_patch 52 = .ok (.iload_n 2, 1) := by decide +kernel
theorem dX9_patch_53 : decode cX9_patch 53 = .ok (.iload_n 3, 1) := by decide +kernel
theorem dX9_patch_54 : decode cX9_patch 54 = .ok (.invokevirtual 359, 3) := by decide +kernel
theorem dX9_patch_57 : decode cX9_patch 57 = .ok (.ireturn, 1) := by decide +kernel
theorem dX9_set_0 : decode cX9_set 0 = .ok (.iload_n 1, 1) := by decide +kernel
theorem dX9_set_1 : decode cX9_set 1 = .ok (.iconst 0, 1) := by decide +kernel
theorem dX9_set_2 : decode cX9_set 2 = .ok (.iconst 5, 1) := by decide +kernel
theorem dX9_set_3 : decode cX9_set 3 = .ok (.invokestatic 100, 3) := by decide +kernel
theorem dX9_set_6 : decode cX9_set 6 = .ok (.iload_n 2, 1) := by decide +kernel
theorem dX9_set_7 : decode cX9_set 7 = .ok (.getstatic 362, 3) := by decide +kernel
theorem dX9_set_10 : decode cX9_set 10 = .ok (.iload_n 1, 1) := by decide +kernel
theorem dX9_set_11 : decode cX9_set 11 = .ok (.iaload, 1) := by decide +kernel
theorem dX9_set_12 : decode cX9_set 12 = .ok (.getstatic 365, 3) := by decide +kernel
theorem dX9_set_15 : decode cX9_set 15 = .ok (.iload_n 1, 1) := by decide +kernel
theorem dX9_set_16 : decode cX9_set 16 = .ok (.iaload, 1) := by decide +kernel
theorem dX9_set_17 : decode cX9_set 17 = .ok (.invokestatic 100, 3) := by decide +kernel
theorem dX9_set_20 : decode cX9_set 20 = .ok (.aload_n 0, 1) := by decide +kernel
theorem dX9_set_21 : decode cX9_set 21 = .ok (.getfield 22, 3) := by decide +kernel
theorem dX9_set_24 : decode cX9_set 24 = .ok (.aload_n 0, 1) := by decide +kernel
theorem dX9_set_25 : decode cX9_set 25 = .ok (.getfield 10, 3) := by decide +kernel
theorem dX9_set_28 : decode cX9_set 28 = .ok (.invokevirtual 322, 3) := by decide +kernel
theorem dX9_set_31 : decode cX9_set 31 = .ok (.aload_n 0, 1) := by decide +kernel
theorem dX9_set_32 : decode cX9_set 32 = .ok (.getfield 10, 3) := by decide +kernel
theorem dX9_set_35 : decode cX9_set 35 = .ok (.getfield 129, 3) := by decide +kernel
theorem dX9_set_38 : decode cX9_set 38 = .ok (.iload_n 1, 1) := by decide +kernel
theorem dX9_set_39 : decode cX9_set 39 = .ok (.iaload, 1) := by decide +kernel
theorem dX9_set_40 : decode cX9_set 40 = .ok (.istore_n 3, 1) := by decide +kernel
theorem dX9_set_41 : decode cX9_set 41 = .ok (.aload_n 0, 1) := by decide +kernel
theorem dX9_set_42 : decode cX9_set 42 = .ok (.getfield 10, 3) := by decide +kernel
theorem dX9_set_45 : decode cX9_set 45 = .ok (.getfield 129, 3) := by decide +kernel
theorem dX9_set_48 : decode cX9_set 48 = .ok (.iload_n 1, 1) := by decide +kernel
theorem dX9_set_49 : decode cX9_set 49 = .ok (.iload_n 2, 1) := by decide +kernel
theorem dX9_set_50 : decode cX9_set 50 = .ok (.iastore, 1) := by decide +kernel
theorem dX9_set_51 : decode cX9_set 51 = .ok (.iload_n 3, 1) := by decide +kernel
theorem dX9_set_52 : decode cX9_set 52 = .ok (.ireturn, 1) := by decide +kernel
theorem dX9_give_0 : decode cX9_give 0 = .ok (.iload_n 1, 1) := by decide +kernel
theorem dX9_give_1 : decode cX9_give 1 = .ok (.iconst 1, 1) := by decide +kernel
theorem dX9_give_2 : decode cX9_give 2 = .ok (.ldc_w 347, 3) := by decide +kernel
theorem dX9_give_5 : decode cX9_give 5 = .ok (.invokestatic 100, 3) := by decide +kernel
theorem dX9_give_8 : decode cX9_give 8 = .ok (.aload_n 0, 1) := by decide +kernel
theorem dX9_give_9 : decode cX9_give 9 = .ok (.getfield 22, 3) := by decide +kernel
theorem dX9_give_12 : decode cX9_give 12 = .ok (.aload_n 0, 1) := by decide +kernel
theorem dX9_give_13 : decode cX9_give 13 = .ok (.getfield 10, 3) := by decide +kernel
theorem dX9_give_16 : decode cX9_give 16 = .ok (.invokevirtual 322, 3) := by decide +kernel
theorem dX9_give_19 : decode cX9_give 19 = .ok (.aload_n 0, 1) := by decide +kernel
theorem dX9_give_20 : decode cX9_give 20 = .ok (.getfield 10, 3) := by decide +kernel
theorem dX9_give_23 : decode cX9_give 23 = .ok (.getfield 129, 3) := by decide +kernel
theorem dX9_give_26 : decode cX9_give 26 = .ok (.bipush 6, 2) := by decide +kernel
theorem dX9_give_28 : decode cX9_give 28 = .ok (.ldc_w 347, 3) := by decide +kernel
theorem dX9_give_31 : decode cX9_give 31 = .ok (.aload_n 0, 1) := by decide +kernel
theorem dX9_give_32 : decode cX9_give 32 = .ok (.getfield 10, 3) := by decide +kernel
theorem dX9_give_35 : decode cX9_give 35 = .ok (.getfield 129, 3) := by decide +kernel
theorem dX9_give_38 : decode cX9_give 38 = .ok (.bipush 6, 2) := by decide +kernel
theorem dX9_give_40 : decode cX9_give 40 = .ok (.iaload, 1) := by decide +kernel
theorem dX9_give_41 : decode cX9_give 41 = .ok (.iload_n 1, 1) := by decide +kernel
theorem dX9_give_42 : decode cX9_give 42 = .ok (.iadd, 1) := by decide +kernel
theorem dX9_give_43 : decode cX9_give 43 = .ok (.invokestatic 368, 3) := by decide +kernel
theorem dX9_give_46 : decode cX9_give 46 = .ok (.iastore, 1) := by decide +kernel
theorem dX9_give_47 : decode cX9_give 47 = .ok (.aload_n 0, 1) := by decide +kernel
theorem dX9_give_48 : decode cX9_give 48 = .ok (.getfield 10, 3) := by decide +kernel
theorem dX9_give_51 : decode cX9_give 51 = .ok (.getfield 129, 3) := by decide +kernel
theorem dX9_give_54 : decode cX9_give 54 = .ok (.bipush 6, 2) := by decide +kernel
theorem dX9_give_56 : decode cX9_give 56 = .ok (.iaload, 1) := by decide +kernel
theorem dX9_give_57 : decode cX9_give 57 = .ok (.ireturn, 1) := by decide +kernel
theorem dX9_undo_0 : decode cX9_undo 0 = .ok (.aload_n 0, 1) := by decide +kernel
theorem dX9_undo_1 : decode cX9_undo 1 = .ok (.getfield 22, 3) := by decide +kernel
theorem dX9_undo_4 : decode cX9_undo 4 = .ok (.getfield 156, 3) := by decide +kernel
theorem dX9_undo_7 : decode cX9_undo 7 = .ok (.ifCond .ne 14, 3) := by decide +kernel
theorem dX9_undo_10 : decode cX9_undo 10 = .ok (.new 317, 3) := by decide +kernel
theorem dX9_undo_13 : decode cX9_undo 13 = .ok (.dup, 1) := by decide +kernel
theorem dX9_undo_14 : decode cX9_undo 14 = .ok (.ldc_w 371, 3) := by decide +kernel
theorem dX9_undo_17 : decode cX9_undo 17 = .ok (.invokespecial 321, 3) := by decide +kernel
theorem dX9_undo_20 : decode cX9_undo 20 = .ok (.athrow, 1) := by decide +kernel
theorem dX9_undo_21 : decode cX9_undo 21 = .ok (.aload_n 0, 1) := by decide +kernel
theorem dX9_undo_22 : decode cX9_undo 22 = .ok (.getfield 22, 3) := by decide +kernel
theorem dX9_undo_25 : decode cX9_undo 25 = .ok (.aload_n 0, 1) := by decide +kernel
theorem dX9_undo_26 : decode cX9_undo 26 = .ok (.getfield 10, 3) := by decide +kernel
theorem dX9_undo_29 : decode cX9_undo 29 = .ok (.invokevirtual 373, 3) := by decide +kernel
theorem dX9_undo_32 : decode cX9_undo 32 = .ok (.aload_n 0, 1) := by decide +kernel
theorem dX9_undo_33 : decode cX9_undo 33 = .ok (.getfield 22, 3) := by decide +kernel
theorem dX9_undo_36 : decode cX9_undo 36 = .ok (.getfield 156, 3) := by decide +kernel
theorem dX9_undo_39 : decode cX9_undo 39 = .ok (.ireturn, 1) := by decide +kernel
theorem dX9_printCell_0 : decode cX9_printCell 0 = .ok (.aload_n 0, 1) := by decide +kernel
theorem dX9_printCell_1 : decode cX9_printCell 1 = .ok (.iload_n 1, 1) := by decide +kernel
theorem dX9_printCell_2 : decode cX9_printCell 2 = .ok (.invokevirtual 157, 3) := by decide +kernel
theorem dX9_printCell_5 : decode cX9_printCell 5 = .ok (.aload_n 0, 1) := by decide +kernel
theorem dX9_printCell_6 : decode cX9_printCell 6 = .ok (.getfield 10, 3) := by decide +kernel
theorem dX9_printCell_9 : decode cX9_printCell 9 = .ok (.iload_n 1, 1) := by decide +kernel
theorem dX9_printCell_10 : decode cX9_printCell 10 = .ok (.iconst (-1), 1) := by decide +kernel
theorem dX9_printCell_11 : decode cX9_printCell 11 = .ok (.invokevirtual 182, 3) := by decide +kernel
theorem dX9_printCell_14 : decode cX9_printCell 14 = .ok (.istore_n 2, 1) := by decide +kernel
theorem dX9_printCell_15 : decode cX9_printCell 15 = .ok (.aload_n 0, 1) := by decide +kernel
theorem dX9_printCell_16 : decode cX9_printCell 16 = .ok (.getfield 50, 3) := by decide +kernel
theorem dX9_printCell_19 : decode cX9_printCell 19 = .ok (.iconst 0, 1) := by decide +kernel
theorem dX9_printCell_20 : decode cX9_printCell 20 = .ok (.putfield 376, 3) := by decide +kernel
theorem dX9_printCell_23 : decode cX9_printCell 23 = .ok (.iconst 0, 1) := by decide +kernel
theorem dX9_printCell_24 : decode cX9_printCell 24 = .ok (.istore_n 3, 1) := by decide +kernel
theorem dX9_printCell_25 : decode cX9_printCell 25 = .ok (.iload_n 3, 1) := by decide +kernel
theorem dX9_printCell_26 : decode cX9_printCell 26 = .ok (.aload_n 0, 1) := by decide +kernel
theorem dX9_printCell_27 : decode cX9_printCell 27 = .ok (.getfield 10, 3) := by decide +kernel
theorem dX9_printCell_30 : decode cX9_printCell 30 = .ok (.getfield 110, 3) := by decide +kernel
theorem dX9_printCell_33 : decode cX9_printCell 33 = .ok (.getfield 179, 3) := by decide +kernel
theorem dX9_printCell_36 : decode cX9_printCell 36 = .ok (.iload_n 2, 1) := by decide +kernel
theorem dX9_printCell_37 : decode cX9_printCell 37 = .ok (.iaload, 1) := by decide +kernel
theorem dX9_printCell_38 : decode cX9_printCell 38 = .ok (.if_icmp .ge 61, 3) := by decide +kernel
theorem dX9_printCell_41 : decode cX9_printCell 41 = .ok (.aload_n 0, 1) := by decide +kernel
theorem dX9_printCell_42 : decode cX9_printCell 42 = .ok (.getfield 50, 3) := by decide +kernel
theorem dX9_printCell_45 : decode cX9_printCell 45 = .ok (.iload_n 3, 1) := by decide +kernel
theorem dX9_printCell_46 : decode cX9_printCell 46 = .ok (.bipush 43, 2) := by decide +kernel
theorem dX9_printCell_48 : decode cX9_printCell 48 = .ok (.invokevirtual 377, 3) := by decide +kernel
theorem dX9_printCell_51 : decode cX9_printCell 51 = .ok (.aload_n 0, 1) := by decide +kernel
theorem dX9_printCell_52 : decode cX9_printCell 52 = .ok (.getfield 50, 3) := by decide +kernel
theorem dX9_printCell_55 : decode cX9_printCell 55 = .ok (.getstatic 381, 3) := by decide +kernel
theorem dX9_printCell_58 : decode cX9_printCell 58 = .ok (.aload_n 0, 1) := by decide +kernel
theorem dX9_printCell_59 : decode cX9_printCell 59 = .ok (.getfield 10, 3) := by decide +kernel
theorem dX9_printCell_62 : decode cX9_printCell 62 = .ok (.getfield 110, 3) := by decide +kernel
theorem dX9_printCell_65 : decode cX9_printCell 65 = .ok (.iload_n 2, 1) := by decide +kernel
theorem dX9_printCell_66 : decode cX9_printCell 66 = .ok (.iload_n 3, 1) := by decide +kernel
theorem dX9_printCell_67 : decode cX9_printCell 67 = .ok (.invokevirtual 204, 3) := by decide +kernel
theorem dX9_printCell_70 : decode cX9_printCell 70 = .ok (.caload, 1) := by decide +kernel
theorem dX9_printCell_71 : decode cX9_printCell 71 = .ok (.invokevirtual 385, 3) := by decide +kernel
theorem dX9_printCell_74 : decode cX9_printCell 74 = .ok (.aload_n 0, 1) := by decide +kernel
theorem dX9_printCell_75 : decode cX9_printCell 75 = .ok (.getfield 50, 3) := by decide +kernel
theorem dX9_printCell_78 : decode cX9_printCell 78 = .ok (.aload_n 0, 1) := by decide +kernel
theorem dX9_printCell_79 : decode cX9_printCell 79 = .ok (.getfield 10, 3) := by decide +kernel
theorem dX9_printCell_82 : decode cX9_printCell 82 = .ok (.getfield 110, 3) := by decide +kernel
theorem dX9_printCell_85 : decode cX9_printCell 85 = .ok (.iload_n 2, 1) := by decide +kernel
theorem dX9_printCell_86 : decode cX9_printCell 86 = .ok (.iload_n 3, 1) := by decide +kernel
theorem dX9_printCell_87 : decode cX9_printCell 87 = .ok (.invokevirtual 207, 3) := by decide +kernel
theorem dX9_printCell_90 : decode cX9_printCell 90 = .ok (.invokevirtual 389, 3) := by decide +kernel
theorem dX9_printCell_93 : decode cX9_printCell 93 = .ok (.iinc 3 1, 3) := by decide +kernel
theorem dX9_printCell_96 : decode cX9_printCell 96 = .ok (.goto (-71), 3) := by decide +kernel
theorem dX9_printCell_99 : decode cX9_printCell 99 = .ok (.aload_n 0, 1) := by decide +kernel
theorem dX9_printCell_100 : decode cX9_printCell 100 = .ok (.getfield 10, 3) := by decide +kernel
theorem dX9_printCell_103 : decode cX9_printCell 103 = .ok (.getfield 169, 3) := by decide +kernel
theorem dX9_printCell_106 : decode cX9_printCell 106 = .ok (.iload_n 1, 1) := by decide +kernel
theorem dX9_printCell_107 : decode cX9_printCell 107 = .ok (.iaload, 1) := by decide +kernel
theorem dX9_printCell_108 : decode cX9_printCell 108 = .ok (.ifCond .le 28, 3) := by decide +kernel
theorem dX9_printCell_111 : decode cX9_printCell 111 = .ok (.aload_n 0, 1) := by decide +kernel
theorem dX9_printCell_112 : decode cX9_printCell 112 = .ok (.getfield 50, 3) := by decide +kernel
theorem dX9_printCell_115 : decode cX9_printCell 115 = .ok (.bipush 45, 2) := by decide +kernel
theorem dX9_printCell_117 : decode cX9_printCell 117 = .ok (.invokevirtual 385, 3) := by decide +kernel
theorem dX9_printCell_120 : decode cX9_printCell 120 = .ok (.aload_n 0, 1) := by decide +kernel
theorem dX9_printCell_121 : decode cX9_printCell 121 = .ok (.getfield 50, 3) := by decide +kernel
theorem dX9_printCell_124 : decode cX9_printCell 124 = .ok (.aload_n 0, 1) := by decide +kernel
theorem dX9_printCell_125 : decode cX9_printCell 125 = .ok (.getfield 10, 3) := by decide +kernel
theorem dX9_printCell_128 : decode cX9_printCell 128 = .ok (.getfield 169, 3) := by decide +kernel
theorem dX9_printCell_131 : decode cX9_printCell 131 = .ok (.iload_n 1, 1) := by decide +kernel
theorem dX9_printCell_132 : decode cX9_printCell 132 = .ok (.iaload, 1) := by decide +kernel
theorem dX9_printCell_133 : decode cX9_printCell 133 = .ok (.invokevirtual 389, 3) := by decide +kernel
theorem dX9_printCell_136 : decode cX9_printCell 136 = .ok (.aload_n 0, 1) := by decide +kernel
theorem dX9_printCell_137 : decode cX9_printCell 137 = .ok (.getfield 10, 3) := by decide +kernel
theorem dX9_printCell_140 : decode cX9_printCell 140 = .ok (.iload_n 1, 1) := by decide +kernel
theorem dX9_printCell_141 : decode cX9_printCell 141 = .ok (.invokevirtual 172, 3) := by decide +kernel
theorem dX9_printCell_144 : decode cX9_printCell 144 = .ok (.ifCond .eq 12, 3) := by decide +kernel
theorem dX9_printCell_147 : decode cX9_printCell 147 = .ok (.aload_n 0, 1) := by decide +kernel
theorem dX9_printCell_148 : decode cX9_printCell 148 = .ok (.getfield 50, 3) := by decide +kernel
theorem dX9_printCell_151 : decode cX9_printCell 151 = .ok (.bipush 42, 2) := by decide +kernel
theorem dX9_printCell_153 : decode cX9_printCell 153 = .ok (.invokevirtual 385, 3) := by decide +kernel
theorem dX9_printCell_156 : decode cX9_printCell 156 = .ok (.aload_n 0, 1) := by decide +kernel
theorem dX9_printCell_157 : decode cX9_printCell 157 = .ok (.getfield 50, 3) := by decide +kernel
theorem dX9_printCell_160 : decode cX9_printCell 160 = .ok (.getfield 376, 3) := by decide +kernel
theorem dX9_printCell_163 : decode cX9_printCell 163 = .ok (.ireturn, 1) := by decide +kernel
theorem dX9_printLane_0 : decode cX9_printLane 0 = .ok (.iload_n 1, 1) := by decide +kernel
theorem dX9_printLane_1 : decode cX9_printLane 1 = .ok (.aload_n 0, 1) := by decide +kernel
theorem dX9_printLane_2 : decode cX9_printLane 2 = .ok (.getfield 10, 3) := by decide +kernel
theorem dX9_printLane_5 : decode cX9_printLane 5 = .ok (.getfield 107, 3) := by decide +kernel
theorem dX9_printLane_8 : decode cX9_printLane 8 = .ok (.invokestatic 200, 3) := by decide +kernel
theorem dX9_printLane_11 : decode cX9_printLane 11 = .ok (.aload_n 0, 1) := by decide +kernel
theorem dX9_printLane_12 : decode cX9_printLane 12 = .ok (.getfield 36, 3) := by decide +kernel
theorem dX9_printLane_15 : decode cX9_printLane 15 = .ok (.aload_n 0, 1) := by decide +kernel
theorem dX9_printLane_16 : decode cX9_printLane 16 = .ok (.getfield 10, 3) := by decide +kernel
theorem dX9_printLane_19 : decode cX9_printLane 19 = .ok (.iconst 0, 1) := by decide +kernel
theorem dX9_printLane_20 : decode cX9_printLane 20 = .ok (.iconst (-1), 1) := by decide +kernel
theorem dX9_printLane_21 : decode cX9_printLane 21 = .ok (.invokevirtual 235, 3) := by decide +kernel
theorem dX9_printLane_24 : decode cX9_printLane 24 = .ok (.aload_n 0, 1) := by decide +kernel
theorem dX9_printLane_25 : decode cX9_printLane 25 = .ok (.getfield 50, 3) := by decide +kernel
theorem dX9_printLane_28 : decode cX9_printLane 28 = .ok (.iconst 0, 1) := by decide +kernel
theorem dX9_printLane_29 : decode cX9_printLane 29 = .ok (.putfield 376, 3) := by decide +kernel
theorem dX9_printLane_32 : decode cX9_printLane 32 = .ok (.iconst 0, 1) := by decide +kernel
theorem dX9_printLane_33 : decode cX9_printLane 33 = .ok (.istore_n 2, 1) := by decide +kernel
theorem dX9_printLane_34 : decode cX9_printLane 34 = .ok (.iload_n 2, 1) := by decide +kernel
theorem dX9_printLane_35 : decode cX9_printLane 35 = .ok (.aload_n 0, 1) := by decide +kernel
theorem dX9_printLane_36 : decode cX9_printLane 36 = .ok (.getfield 10, 3) := by decide +kernel
theorem dX9_printLane_39 : decode cX9_printLane 39 = .ok (.getfield 104, 3) := by decide +kernel
theorem dX9_printLane_42 : decode cX9_printLane 42 = .ok (.if_icmp .ge 66, 3) := by decide +kernel
theorem dX9_printLane_45 : decode cX9_printLane 45 = .ok (.aload_n 0, 1) := by decide +kernel
theorem dX9_printLane_46 : decode cX9_printLane 46 = .ok (.getfield 50, 3) := by decide +kernel
theorem dX9_printLane_49 : decode cX9_printLane 49 = .ok (.iload_n 2, 1) := by decide +kernel
theorem dX9_printLane_50 : decode cX9_printLane 50 = .ok (.bipush 32, 2) := by decide +kernel
theorem dX9_printLane_52 : decode cX9_printLane 52 = .ok (.invokevirtual 377, 3) := by decide +kernel
theorem dX9_printLane_55 : decode cX9_printLane 55 = .ok (.aload_n 0, 1) := by decide +kernel
theorem dX9_printLane_56 : decode cX9_printLane 56 = .ok (.getfield 36, 3) := by decide +kernel
theorem dX9_printLane_59 : decode cX9_printLane 59 = .ok (.aload_n 0, 1) := by decide +kernel
theorem dX9_printLane_60 : decode cX9_printLane 60 = .ok (.getfield 10, 3) := by decide +kernel
theorem dX9_printLane_63 : decode cX9_printLane 63 = .ok (.aload_n 0, 1) := by decide +kernel
theorem dX9_printLane_64 : decode cX9_printLane 64 = .ok (.getfield 10, 3) := by decide +kernel
theorem dX9_printLane_67 : decode cX9_printLane 67 = .ok (.iload_n 2, 1) := by decide +kernel
theorem dX9_printLane_68 : decode cX9_printLane 68 = .ok (.iload_n 1, 1) := by decide +kernel
theorem dX9_printLane_69 : decode cX9_printLane 69 = .ok (.invokevirtual 253, 3) := by decide +kernel
theorem dX9_printLane_72 : decode cX9_printLane 72 = .ok (.invokevirtual 239, 3) := by decide +kernel
theorem dX9_printLane_75 : decode cX9_printLane 75 = .ok (.istore_n 3, 1) := by decide +kernel
theorem dX9_printLane_76 : decode cX9_printLane 76 = .ok (.iload_n 3, 1) := by decide +kernel
theorem dX9_printLane_77 : decode cX9_printLane 77 = .ok (.bipush 61, 2) := by decide +kernel
theorem dX9_printLane_79 : decode cX9_printLane 79 = .ok (.if_icmp .ne 15, 3) := by decide +kernel
theorem dX9_printLane_82 : decode cX9_printLane 82 = .ok (.aload_n 0, 1) := by decide +kernel
theorem dX9_printLane_83 : decode cX9_printLane 83 = .ok (.getfield 50, 3) := by decide +kernel
theorem dX9_printLane_86 : decode cX9_printLane 86 = .ok (.bipush 35, 2) := by decide +kernel
theorem dX9_printLane_88 : decode cX9_printLane 88 = .ok (.invokevirtual 385, 3) := by decide +kernel
theorem dX9_printLane_91 : decode cX9_printLane 91 = .ok (.goto 11, 3) := by decide +kernel
theorem dX9_printLane_94 : decode cX9_printLane 94 = .ok (.aload_n 0, 1) := by decide +kernel
theorem dX9_printLane_95 : decode cX9_printLane 95 = .ok (.getfield 50, 3) := by decide +kernel
theorem dX9_printLane_98 : decode cX9_printLane 98 = .ok (.iload_n 3, 1) := by decide +kernel
theorem dX9_printLane_99 : decode cX9_printLane 99 = .ok (.invokevirtual 389, 3) := by decide +kernel
theorem dX9_printLane_102 : decode cX9_printLane 102 = .ok (.iinc 2 1, 3) := by decide +kernel
theorem dX9_printLane_105 : decode cX9_printLane 105 = .ok (.goto (-71), 3) := by decide +kernel
theorem dX9_printLane_108 : decode cX9_printLane 108 = .ok (.aload_n 0, 1) := by decide +kernel
theorem dX9_printLane_109 : decode cX9_printLane 109 = .ok (.getfield 50, 3) := by decide +kernel
theorem dX9_printLane_112 : decode cX9_printLane 112 = .ok (.getfield 376, 3) := by decide +kernel
theorem dX9_printLane_115 : decode cX9_printLane 115 = .ok (.ireturn, 1) := by decide +kernel
theorem dX9_printLoads_0 : decode cX9_printLoads 0 = .ok (.aload_n 0, 1) := by decide +kernel
theorem dX9_printLoads_1 : decode cX9_printLoads 1 = .ok (.getfield 50, 3) := by decide +kernel
theorem dX9_printLoads_4 : decode cX9_printLoads 4 = .ok (.iconst 0, 1) := by decide +kernel
theorem dX9_printLoads_5 : decode cX9_printLoads 5 = .ok (.putfield 376, 3) := by decide +kernel
theorem dX9_printLoads_8 : decode cX9_printLoads 8 = .ok (.iconst 0, 1) := by decide +kernel
theorem dX9_printLoads_9 : decode cX9_printLoads 9 = .ok (.istore_n 1, 1) := by decide +kernel
theorem dX9_printLoads_10 : decode cX9_printLoads 10 = .ok (.iload_n 1, 1) := by decide +kernel
theorem dX9_printLoads_11 : decode cX9_printLoads 11 = .ok (.aload_n 0, 1) := by decide +kernel
theorem dX9_printLoads_12 : decode cX9_printLoads 12 = .ok (.getfield 10, 3) := by decide +kernel
theorem dX9_printLoads_15 : decode cX9_printLoads 15 = .ok (.getfield 119, 3) := by decide +kernel
theorem dX9_printLoads_18 : decode cX9_printLoads 18 = .ok (.getfield 123, 3) := by decide +kernel
theorem dX9_printLoads_21 : decode cX9_printLoads 21 = .ok (.if_icmp .ge 24, 3) := by decide +kernel
theorem dX9_printLoads_24 : decode cX9_printLoads 24 = .ok (.aload_n 0, 1) := by decide +kernel
theorem dX9_printLoads_25 : decode cX9_printLoads 25 = .ok (.getfield 50, 3) := by decide +kernel
theorem dX9_printLoads_28 : decode cX9_printLoads 28 = .ok (.iload_n 1, 1) := by decide +kernel
theorem dX9_printLoads_29 : decode cX9_printLoads 29 = .ok (.bipush 32, 2) := by decide +kernel
theorem dX9_printLoads_31 : decode cX9_printLoads 31 = .ok (.invokevirtual 377, 3) := by decide +kernel
theorem dX9_printLoads_34 : decode cX9_printLoads 34 = .ok (.aload_n 0, 1) := by decide +kernel
theorem dX9_printLoads_35 : decode cX9_printLoads 35 = .ok (.iload_n 1, 1) := by decide +kernel
theorem dX9_printLoads_36 : decode cX9_printLoads 36 = .ok (.invokevirtual 392, 3) := by decide +kernel
theorem dX9_printLoads_39 : decode cX9_printLoads 39 = .ok (.iinc 1 1, 3) := by decide +kernel
theorem dX9_printLoads_42 : decode cX9_printLoads 42 = .ok (.goto (-32), 3) := by decide +kernel
theorem dX9_printLoads_45 : decode cX9_printLoads 45 = .ok (.aload_n 0, 1) := by decide +kernel
theorem dX9_printLoads_46 : decode cX9_printLoads 46 = .ok (.getfield 10, 3) := by decide +kernel
theorem dX9_printLoads_49 : decode cX9_printLoads 49 = .ok (.getfield 119, 3) := by decide +kernel
theorem dX9_printLoads_52 : decode cX9_printLoads 52 = .ok (.getfield 123, 3) := by decide +kernel
theorem dX9_printLoads_55 : decode cX9_printLoads 55 = .ok (.ifCond .ne 12, 3) := by decide +kernel
theorem dX9_printLoads_58 : decode cX9_printLoads 58 = .ok (.aload_n 0, 1) := by decide +kernel
theorem dX9_printLoads_59 : decode cX9_printLoads 59 = .ok (.getfield 50, 3) := by decide +kernel
theorem dX9_printLoads_62 : decode cX9_printLoads 62 = .ok (.bipush 45, 2) := by decide +kernel
theorem dX9_printLoads_64 : decode cX9_printLoads 64 = .ok (.invokevirtual 385, 3) := by decide +kernel
theorem dX9_printLoads_67 : decode cX9_printLoads 67 = .ok (.aload_n 0, 1) := by decide +kernel
theorem dX9_printLoads_68 : decode cX9_printLoads 68 = .ok (.getfield 50, 3) := by decide +kernel
theorem dX9_printLoads_71 : decode cX9_printLoads 71 = .ok (.getfield 376, 3) := by decide +kernel
theorem dX9_printLoads_74 : decode cX9_printLoads 74 = .ok (.ireturn, 1) := by decide +kernel
theorem dX9_outputByte_0 : decode cX9_outputByte 0 = .ok (.iload_n 1, 1) := by decide +kernel
theorem dX9_outputByte_1 : decode cX9_outputByte 1 = .ok (.ifCond .lt 14, 3) := by decide +kernel
theorem dX9_outputByte_4 : decode cX9_outputByte 4 = .ok (.iload_n 1, 1) := by decide +kernel
theorem dX9_outputByte_5 : decode cX9_outputByte 5 = .ok (.aload_n 0, 1) := by decide +kernel
theorem dX9_outputByte_6 : decode cX9_outputByte 6 = .ok (.getfield 50, 3) := by decide +kernel
theorem dX9_outputByte_9 : decode cX9_outputByte 9 = .ok (.getfield 376, 3) := by decide +kernel
theorem dX9_outputByte_12 : decode cX9_outputByte 12 = .ok (.if_icmp .lt 7, 3) := by decide +kernel
theorem dX9_outputByte_15 : decode cX9_outputByte 15 = .ok (.iconst (-1), 1) := by decide +kernel
theorem dX9_outputByte_16 : decode cX9_outputByte 16 = .ok (.goto 12, 3) := by decide +kernel
theorem dX9_outputByte_19 : decode cX9_outputByte 19 = .ok (.aload_n 0, 1) := by decide +kernel
theorem dX9_outputByte_20 : decode cX9_outputByte 20 = .ok (.getfield 50, 3) := by decide +kernel
theorem dX9_outputByte_23 : decode cX9_outputByte 23 = .ok (.getfield 395, 3) := by decide +kernel
theorem dX9_outputByte_26 : decode cX9_outputByte 26 = .ok (.iload_n 1, 1) := by decide +kernel
theorem dX9_outputByte_27 : decode cX9_outputByte 27 = .ok (.baload, 1) := by decide +kernel
theorem dX9_outputByte_28 : decode cX9_outputByte 28 = .ok (.ireturn, 1) := by decide +kernel
theorem dX9_saveState_0 : decode cX9_saveState 0 = .ok (.aload_n 0, 1) := by decide +kernel
theorem dX9_saveState_1 : decode cX9_saveState 1 = .ok (.getfield 16, 3) := by decide +kernel
theorem dX9_saveState_4 : decode cX9_saveState 4 = .ok (.aload_n 0, 1) := by decide +kernel
theorem dX9_saveState_5 : decode cX9_saveState 5 = .ok (.getfield 10, 3) := by decide +kernel
theorem dX9_saveState_8 : decode cX9_saveState 8 = .ok (.invokevirtual 83, 3) := by decide +kernel
theorem dX9_saveState_11 : decode cX9_saveState 11 = .ok (.aload_n 0, 1) := by decide +kernel
theorem dX9_saveState_12 : decode cX9_saveState 12 = .ok (.iconst 1, 1) := by decide +kernel
theorem dX9_saveState_13 : decode cX9_saveState 13 = .ok (.putfield 58, 3) := by decide +kernel
theorem dX9_saveState_16 : decode cX9_saveState 16 = .ok (.aload_n 0, 1) := by decide +kernel
theorem dX9_saveState_17 : decode cX9_saveState 17 = .ok (.getfield 10, 3) := by decide +kernel
theorem dX9_saveState_20 : decode cX9_saveState 20 = .ok (.getfield 126, 3) := by decide +kernel
theorem dX9_saveState_23 : decode cX9_saveState 23 = .ok (.ireturn, 1) := by decide +kernel
theorem dX9_restoreState_0 : decode cX9_restoreState 0 = .ok (.aload_n 0, 1) := by decide +kernel
theorem dX9_restoreState_1 : decode cX9_restoreState 1 = .ok (.getfield 58, 3) := by decide +kernel
theorem dX9_restoreState_4 : decode cX9_restoreState 4 = .ok (.ifCond .ne 14, 3) := by decide +kernel
theorem dX9_restoreState_7 : decode cX9_restoreState 7 = .ok (.new 317, 3) := by decide +kernel
theorem dX9_restoreState_10 : decode cX9_restoreState 10 = .ok (.dup, 1) := by decide +kernel
theorem dX9_restoreState_11 : decode cX9_restoreState 11 = .ok (.ldc_w 399, 3) := by decide +kernel
theorem dX9_restoreState_14 : decode cX9_restoreState 14 = .ok (.invokespecial 321, 3) := by decide +kernel
theorem dX9_restoreState_17 : decode cX9_restoreState 17 = .ok (.athrow, 1) := by decide +kernel
theorem dX9_restoreState_18 : decode cX9_restoreState 18 = .ok (.aload_n 0, 1) := by decide +kernel
theorem dX9_restoreState_19 : decode cX9_restoreState 19 = .ok (.getfield 10, 3) := by decide +kernel
theorem dX9_restoreState_22 : decode cX9_restoreState 22 = .ok (.aload_n 0, 1) := by decide +kernel
theorem dX9_restoreState_23 : decode cX9_restoreState 23 = .ok (.getfield 16, 3) := by decide +kernel
theorem dX9_restoreState_26 : decode cX9_restoreState 26 = .ok (.invokevirtual 83, 3) := by decide +kernel
theorem dX9_restoreState_29 : decode cX9_restoreState 29 = .ok (.aload_n 0, 1) := by decide +kernel
theorem dX9_restoreState_30 : decode cX9_restoreState 30 = .ok (.getfield 22, 3) := by decide +kernel
theorem dX9_restoreState_33 : decode cX9_restoreState 33 = .ok (.invokevirtual 87, 3) := by decide +kernel
theorem dX9_restoreState_36 : decode cX9_restoreState 36 = .ok (.aload_n 0, 1) := by decide +kernel
theorem dX9_restoreState_37 : decode cX9_restoreState 37 = .ok (.getfield 10, 3) := by decide +kernel
theorem dX9_restoreState_40 : decode cX9_restoreState 40 = .ok (.getfield 126, 3) := by decide +kernel
theorem dX9_restoreState_43 : decode cX9_restoreState 43 = .ok (.ireturn, 1) := by decide +kernel
theorem dX9_checkCell_0 : decode cX9_checkCell 0 = .ok (.iload_n 1, 1) := by decide +kernel
theorem dX9_checkCell_1 : decode cX9_checkCell 1 = .ok (.aload_n 0, 1) := by decide +kernel
theorem dX9_checkCell_2 : decode cX9_checkCell 2 = .ok (.getfield 10, 3) := by decide +kernel
theorem dX9_checkCell_5 : decode cX9_checkCell 5 = .ok (.invokevirtual 90, 3) := by decide +kernel
theorem dX9_checkCell_8 : decode cX9_checkCell 8 = .ok (.invokestatic 200, 3) := by decide +kernel
theorem dX9_checkCell_11 : decode cX9_checkCell 11 = .ok (.return_, 1) := by decide +kernel
theorem dX9_checkIndex_0 : decode cX9_checkIndex 0 = .ok (.iload_n 0, 1) := by decide +kernel
theorem dX9_checkIndex_1 : decode cX9_checkIndex 1 = .ok (.ifCond .lt 8, 3) := by decide +kernel
theorem dX9_checkIndex_4 : decode cX9_checkIndex 4 = .ok (.iload_n 0, 1) := by decide +kernel
theorem dX9_checkIndex_5 : decode cX9_checkIndex 5 = .ok (.iload_n 1, 1) := by decide +kernel
theorem dX9_checkIndex_6 : decode cX9_checkIndex 6 = .ok (.if_icmp .lt 14, 3) := by decide +kernel
theorem dX9_checkIndex_9 : decode cX9_checkIndex 9 = .ok (.new 401, 3) := by decide +kernel
theorem dX9_checkIndex_12 : decode cX9_checkIndex 12 = .ok (.dup, 1) := by decide +kernel
theorem dX9_checkIndex_13 : decode cX9_checkIndex 13 = .ok (.ldc_w 403, 3) := by decide +kernel
theorem dX9_checkIndex_16 : decode cX9_checkIndex 16 = .ok (.invokespecial 405, 3) := by decide +kernel
theorem dX9_checkIndex_19 : decode cX9_checkIndex 19 = .ok (.athrow, 1) := by decide +kernel
theorem dX9_checkIndex_20 : decode cX9_checkIndex 20 = .ok (.return_, 1) := by decide +kernel
theorem dX9_checkRange_0 : decode cX9_checkRange 0 = .ok (.iload_n 0, 1) := by decide +kernel
theorem dX9_checkRange_1 : decode cX9_checkRange 1 = .ok (.iload_n 1, 1) := by decide +kernel
theorem dX9_checkRange_2 : decode cX9_checkRange 2 = .ok (.if_icmp .lt 8, 3) := by decide +kernel
theorem dX9_checkRange_5 : decode cX9_checkRange 5 = .ok (.iload_n 0, 1) := by decide +kernel
theorem dX9_checkRange_6 : decode cX9_checkRange 6 = .ok (.iload_n 2, 1) := by decide +kernel
theorem dX9_checkRange_7 : decode cX9_checkRange 7 = .ok (.if_icmp .le 14, 3) := by decide +kernel
theorem dX9_checkRange_10 : decode cX9_checkRange 10 = .ok (.new 406, 3) := by decide +kernel
theorem dX9_checkRange_13 : decode cX9_checkRange 13 = .ok (.dup, 1) := by decide +kernel
theorem dX9_checkRange_14 : decode cX9_checkRange 14 = .ok (.ldc_w 408, 3) := by decide +kernel
theorem dX9_checkRange_17 : decode cX9_checkRange 17 = .ok (.invokespecial 410, 3) := by decide +kernel
theorem dX9_checkRange_20 : decode cX9_checkRange 20 = .ok (.athrow, 1) := by decide +kernel
theorem dX9_checkRange_21 : decode cX9_checkRange 21 = .ok (.return_, 1) := by decide +kernel
theorem dX9_checkYears_0 : decode cX9_checkYears 0 = .ok (.iload_n 0, 1) := by decide +kernel
theorem dX9_checkYears_1 : decode cX9_checkYears 1 = .ok (.iconst 1, 1) := by decide +kernel
theorem dX9_checkYears_2 : decode cX9_checkYears 2 = .ok (.bipush 60, 2) := by decide +kernel
theorem dX9_checkYears_4 : decode cX9_checkYears 4 = .ok (.invokestatic 100, 3) := by decide +kernel
theorem dX9_checkYears_7 : decode cX9_checkYears 7 = .ok (.return_, 1) := by decide +kernel
theorem dX9_checkLayer_0 : decode cX9_checkLayer 0 = .ok (.iload_n 0, 1) := by decide +kernel
theorem dX9_checkLayer_1 : decode cX9_checkLayer 1 = .ok (.iconst 0, 1) := by decide +kernel
theorem dX9_checkLayer_2 : decode cX9_checkLayer 2 = .ok (.iconst 3, 1) := by decide +kernel
theorem dX9_checkLayer_3 : decode cX9_checkLayer 3 = .ok (.invokestatic 100, 3) := by decide +kernel
theorem dX9_checkLayer_6 : decode cX9_checkLayer 6 = .ok (.iload_n 1, 1) := by decide +kernel
theorem dX9_checkLayer_7 : decode cX9_checkLayer 7 = .ok (.iconst 1, 1) := by decide +kernel
theorem dX9_checkLayer_8 : decode cX9_checkLayer 8 = .ok (.sipush 500, 3) := by decide +kernel
theorem dX9_checkLayer_11 : decode cX9_checkLayer 11 = .ok (.invokestatic 100, 3) := by decide +kernel
theorem dX9_checkLayer_14 : decode cX9_checkLayer 14 = .ok (.return_, 1) := by decide +kernel
theorem dX9_checkPatch_0 : decode cX9_checkPatch 0 = .ok (.aload_n 0, 1) := by decide +kernel
theorem dX9_checkPatch_1 : decode cX9_checkPatch 1 = .ok (.iload_n 2, 1) := by decide +kernel
theorem dX9_checkPatch_2 : decode cX9_checkPatch 2 = .ok (.invokevirtual 157, 3) := by decide +kernel
theorem dX9_checkPatch_5 : decode cX9_checkPatch 5 = .ok (.iload_n 1, 1) := by decide +kernel
theorem dX9_checkPatch_6 : decode cX9_checkPatch 6 = .ok (.iconst 1, 1) := by decide +kernel
theorem dX9_checkPatch_7 : decode cX9_checkPatch 7 = .ok (.iconst 3, 1) := by decide +kernel
theorem dX9_checkPatch_8 : decode cX9_checkPatch 8 = .ok (.invokestatic 100, 3) := by decide +kernel
theorem dX9_checkPatch_11 : decode cX9_checkPatch 11 = .ok (.iload_n 1, 1) := by decide +kernel
theorem dX9_checkPatch_12 : decode cX9_checkPatch 12 = .ok (.iconst 2, 1) := by decide +kernel
theorem dX9_checkPatch_13 : decode cX9_checkPatch 13 = .ok (.if_icmp .ne 11, 3) := by decide +kernel
theorem dX9_checkPatch_16 : decode cX9_checkPatch 16 = .ok (.iload_n 3, 1) := by decide +kernel
theorem dX9_checkPatch_17 : decode cX9_checkPatch 17 = .ok (.bipush 10, 2) := by decide +kernel
theorem dX9_checkPatch_19 : decode cX9_checkPatch 19 = .ok (.bipush 100, 2) := by decide +kernel
theorem dX9_checkPatch_21 : decode cX9_checkPatch 21 = .ok (.invokestatic 100, 3) := by decide +kernel
theorem dX9_checkPatch_24 : decode cX9_checkPatch 24 = .ok (.return_, 1) := by decide +kernel
theorem dX9_noneIfNever_0 : decode cX9_noneIfNever 0 = .ok (.iload_n 0, 1) := by decide +kernel
theorem dX9_noneIfNever_1 : decode cX9_noneIfNever 1 = .ok (.bipush 61, 2) := by decide +kernel
theorem dX9_noneIfNever_3 : decode cX9_noneIfNever 3 = .ok (.if_icmp .ne 7, 3) := by decide +kernel
theorem dX9_noneIfNever_6 : decode cX9_noneIfNever 6 = .ok (.iconst (-1), 1) := by decide +kernel
theorem dX9_noneIfNever_7 : decode cX9_noneIfNever 7 = .ok (.goto 4, 3) := by decide +kernel
theorem dX9_noneIfNever_10 : decode cX9_noneIfNever 10 = .ok (.iload_n 0, 1) := by decide +kernel
theorem dX9_noneIfNever_11 : decode cX9_noneIfNever 11 = .ok (.ireturn, 1) := by decide +kernel
theorem dX9_cellOfRank_0 : decode cX9_cellOfRank 0 = .ok (.iconst 0, 1) := by decide +kernel
theorem dX9_cellOfRank_1 : decode cX9_cellOfRank 1 = .ok (.istore_n 3, 1) := by decide +kernel
theorem dX9_cellOfRank_2 : decode cX9_cellOfRank 2 = .ok (.iload_n 3, 1) := by decide +kernel
theorem dX9_cellOfRank_3 : decode cX9_cellOfRank 3 = .ok (.iload_n 2, 1) := by decide +kernel
theorem dX9_cellOfRank_4 : decode cX9_cellOfRank 4 = .ok (.if_icmp .ge 54, 3) := by decide +kernel
theorem dX9_cellOfRank_7 : decode cX9_cellOfRank 7 = .ok (.iconst 0, 1) := by decide +kernel
theorem dX9_cellOfRank_8 : decode cX9_cellOfRank 8 = .ok (.istore 4, 2) := by decide +kernel
theorem dX9_cellOfRank_10 : decode cX9_cellOfRank 10 = .ok (.iconst 0, 1) := by decide +kernel
theorem dX9_cellOfRank_11 : decode cX9_cellOfRank 11 = .ok (.istore 5, 2) := by decide +kernel
theorem dX9_cellOfRank_13 : decode cX9_cellOfRank 13 = .ok (.iload 5, 2) := by decide +kernel
theorem dX9_cellOfRank_15 : decode cX9_cellOfRank 15 = .ok (.iload_n 2, 1) := by decide +kernel
theorem dX9_cellOfRank_16 : decode cX9_cellOfRank 16 = .ok (.if_icmp .ge 28, 3) := by decide +kernel
theorem dX9_cellOfRank_19 : decode cX9_cellOfRank 19 = .ok (.aload_n 0, 1) := by decide +kernel
theorem dX9_cellOfRank_20 : decode cX9_cellOfRank 20 = .ok (.getfield 54, 3) := by decide +kernel
theorem dX9_cellOfRank_23 : decode cX9_cellOfRank 23 = .ok (.iload 5, 2) := by decide +kernel
theorem dX9_cellOfRank_25 : decode cX9_cellOfRank 25 = .ok (.iaload, 1) := by decide +kernel
theorem dX9_cellOfRank_26 : decode cX9_cellOfRank 26 = .ok (.aload_n 0, 1) := by decide +kernel
theorem dX9_cellOfRank_27 : decode cX9_cellOfRank 27 = .ok (.getfield 54, 3) := by decide +kernel
theorem dX9_cellOfRank_30 : decode cX9_cellOfRank 30 = .ok (.iload_n 3, 1) := by decide +kernel
theorem dX9_cellOfRank_31 : decode cX9_cellOfRank 31 = .ok (.iaload, 1) := by decide +kernel
theorem dX9_cellOfRank_32 : decode cX9_cellOfRank 32 = .ok (.if_icmp .ge 6, 3) := by decide +kernel
theorem dX9_cellOfRank_35 : decode cX9_cellOfRank 35 = .ok (.iinc 4 1, 3) := by decide +kernel
theorem dX9_cellOfRank_38 : decode cX9_cellOfRank 38 = .ok (.iinc 5 1, 3) := by decide +kernel
theorem dX9_cellOfRank_41 : decode cX9_cellOfRank 41 = .ok (.goto (-28), 3) := by decide +kernel
theorem dX9_cellOfRank_44 : decode cX9_cellOfRank 44 = .ok (.iload 4, 2) := by decide +kernel
theorem dX9_cellOfRank_46 : decode cX9_cellOfRank 46 = .ok (.iload_n 1, 1) := by decide +kernel
theorem dX9_cellOfRank_47 : decode cX9_cellOfRank 47 = .ok (.if_icmp .ne 5, 3) := by decide +kernel
theorem dX9_cellOfRank_50 : decode cX9_cellOfRank 50 = .ok (.iload_n 3, 1) := by decide +kernel
theorem dX9_cellOfRank_51 : decode cX9_cellOfRank 51 = .ok (.ireturn, 1) := by decide +kernel
theorem dX9_cellOfRank_52 : decode cX9_cellOfRank 52 = .ok (.iinc 3 1, 3) := by decide +kernel
theorem dX9_cellOfRank_55 : decode cX9_cellOfRank 55 = .ok (.goto (-53), 3) := by decide +kernel
theorem dX9_cellOfRank_58 : decode cX9_cellOfRank 58 = .ok (.iconst (-1), 1) := by decide +kernel
theorem dX9_cellOfRank_59 : decode cX9_cellOfRank 59 = .ok (.ireturn, 1) := by decide +kernel
theorem dX9_printLoad_0 : decode cX9_printLoad 0 = .ok (.aload_n 0, 1) := by decide +kernel
theorem dX9_printLoad_1 : decode cX9_printLoad 1 = .ok (.getfield 10, 3) := by decide +kernel
theorem dX9_printLoad_4 : decode cX9_printLoad 4 = .ok (.getfield 119, 3) := by decide +kernel
theorem dX9_printLoad_7 : decode cX9_printLoad 7 = .ok (.astore_n 2, 1) := by decide +kernel
theorem dX9_printLoad_8 : decode cX9_printLoad 8 = .ok (.aload_n 0, 1) := by decide +kernel
theorem dX9_printLoad_9 : decode cX9_printLoad 9 = .ok (.getfield 50, 3) := by decide +kernel
theorem dX9_printLoad_12 : decode cX9_printLoad 12 = .ok (.aload_n 2, 1) := by decide +kernel
theorem dX9_printLoad_13 : decode cX9_printLoad 13 = .ok (.iload_n 1, 1) := by decide +kernel
theorem dX9_printLoad_14 : decode cX9_printLoad 14 = .ok (.iconst 0, 1) := by decide +kernel
theorem dX9_printLoad_15 : decode cX9_printLoad 15 = .ok (.invokevirtual 218, 3) := by decide +kernel
theorem dX9_printLoad_18 : decode cX9_printLoad 18 = .ok (.invokevirtual 389, 3) := by decide +kernel
theorem dX9_printLoad_21 : decode cX9_printLoad 21 = .ok (.aload_n 0, 1) := by decide +kernel
theorem dX9_printLoad_22 : decode cX9_printLoad 22 = .ok (.getfield 50, 3) := by decide +kernel
theorem dX9_printLoad_25 : decode cX9_printLoad 25 = .ok (.bipush 58, 2) := by decide +kernel
theorem dX9_printLoad_27 : decode cX9_printLoad 27 = .ok (.invokevirtual 385, 3) := by decide +kernel
theorem dX9_printLoad_30 : decode cX9_printLoad 30 = .ok (.aload_n 0, 1) := by decide +kernel
theorem dX9_printLoad_31 : decode cX9_printLoad 31 = .ok (.getfield 50, 3) := by decide +kernel
theorem dX9_printLoad_34 : decode cX9_printLoad 34 = .ok (.aload_n 2, 1) := by decide +kernel
theorem dX9_printLoad_35 : decode cX9_printLoad 35 = .ok (.iload_n 1, 1) := by decide +kernel
theorem dX9_printLoad_36 : decode cX9_printLoad 36 = .ok (.iconst 1, 1) := by decide +kernel
theorem dX9_printLoad_37 : decode cX9_printLoad 37 = .ok (.invokevirtual 218, 3) := by decide +kernel
theorem dX9_printLoad_40 : decode cX9_printLoad 40 = .ok (.invokevirtual 389, 3) := by decide +kernel
theorem dX9_printLoad_43 : decode cX9_printLoad 43 = .ok (.aload_n 0, 1) := by decide +kernel
theorem dX9_printLoad_44 : decode cX9_printLoad 44 = .ok (.getfield 50, 3) := by decide +kernel
theorem dX9_printLoad_47 : decode cX9_printLoad 47 = .ok (.bipush 45, 2) := by decide +kernel
theorem dX9_printLoad_49 : decode cX9_printLoad 49 = .ok (.invokevirtual 385, 3) := by decide +kernel
theorem dX9_printLoad_52 : decode cX9_printLoad 52 = .ok (.aload_n 0, 1) := by decide +kernel
theorem dX9_printLoad_53 : decode cX9_printLoad 53 = .ok (.getfield 50, 3) := by decide +kernel
theorem dX9_printLoad_56 : decode cX9_printLoad 56 = .ok (.aload_n 2, 1) := by decide +kernel
theorem dX9_printLoad_57 : decode cX9_printLoad 57 = .ok (.iload_n 1, 1) := by decide +kernel
theorem dX9_printLoad_58 : decode cX9_printLoad 58 = .ok (.iconst 2, 1) := by decide +kernel
theorem dX9_printLoad_59 : decode cX9_printLoad 59 = .ok (.invokevirtual 218, 3) := by decide +kernel
theorem dX9_printLoad_62 : decode cX9_printLoad 62 = .ok (.invokevirtual 389, 3) := by decide +kernel
theorem dX9_printLoad_65 : decode cX9_printLoad 65 = .ok (.aload_n 0, 1) := by decide +kernel
theorem dX9_printLoad_66 : decode cX9_printLoad 66 = .ok (.getfield 50, 3) := by decide +kernel
theorem dX9_printLoad_69 : decode cX9_printLoad 69 = .ok (.bipush 120, 2) := by decide +kernel
theorem dX9_printLoad_71 : decode cX9_printLoad 71 = .ok (.invokevirtual 385, 3) := by decide +kernel
theorem dX9_printLoad_74 : decode cX9_printLoad 74 = .ok (.aload_n 0, 1) := by decide +kernel
theorem dX9_printLoad_75 : decode cX9_printLoad 75 = .ok (.getfield 50, 3) := by decide +kernel
theorem dX9_printLoad_78 : decode cX9_printLoad 78 = .ok (.aload_n 2, 1) := by decide +kernel
theorem dX9_printLoad_79 : decode cX9_printLoad 79 = .ok (.iload_n 1, 1) := by decide +kernel
theorem dX9_printLoad_80 : decode cX9_printLoad 80 = .ok (.iconst 3, 1) := by decide +kernel
theorem dX9_printLoad_81 : decode cX9_printLoad 81 = .ok (.invokevirtual 218, 3) := by decide +kernel
theorem dX9_printLoad_84 : decode cX9_printLoad 84 = .ok (.invokevirtual 389, 3) := by decide +kernel
theorem dX9_printLoad_87 : decode cX9_printLoad 87 = .ok (.aload_n 0, 1) := by decide +kernel
theorem dX9_printLoad_88 : decode cX9_printLoad 88 = .ok (.getfield 50, 3) := by decide +kernel
theorem dX9_printLoad_91 : decode cX9_printLoad 91 = .ok (.bipush 42, 2) := by decide +kernel
theorem dX9_printLoad_93 : decode cX9_printLoad 93 = .ok (.invokevirtual 385, 3) := by decide +kernel
theorem dX9_printLoad_96 : decode cX9_printLoad 96 = .ok (.aload_n 0, 1) := by decide +kernel
theorem dX9_printLoad_97 : decode cX9_printLoad 97 = .ok (.getfield 50, 3) := by decide +kernel
theorem dX9_printLoad_100 : decode cX9_printLoad 100 = .ok (.aload_n 2, 1) := by decide +kernel
theorem dX9_printLoad_101 : decode cX9_printLoad 101 = .ok (.iload_n 1, 1) := by decide +kernel
theorem dX9_printLoad_102 : decode cX9_printLoad 102 = .ok (.iconst 4, 1) := by decide +kernel
theorem dX9_printLoad_103 : decode cX9_printLoad 103 = .ok (.invokevirtual 218, 3) := by decide +kernel
theorem dX9_printLoad_106 : decode cX9_printLoad 106 = .ok (.invokevirtual 389, 3) := by decide +kernel
theorem dX9_printLoad_109 : decode cX9_printLoad 109 = .ok (.aload_n 2, 1) := by decide +kernel
theorem dX9_printLoad_110 : decode cX9_printLoad 110 = .ok (.iload_n 1, 1) := by decide +kernel
theorem dX9_printLoad_111 : decode cX9_printLoad 111 = .ok (.iconst 5, 1) := by decide +kernel
theorem dX9_printLoad_112 : decode cX9_printLoad 112 = .ok (.invokevirtual 218, 3) := by decide +kernel
theorem dX9_printLoad_115 : decode cX9_printLoad 115 = .ok (.istore_n 3, 1) := by decide +kernel
theorem dX9_printLoad_116 : decode cX9_printLoad 116 = .ok (.iload_n 3, 1) := by decide +kernel
theorem dX9_printLoad_117 : decode cX9_printLoad 117 = .ok (.ifCond .eq 20, 3) := by decide +kernel
theorem dX9_printLoad_120 : decode cX9_printLoad 120 = .ok (.aload_n 0, 1) := by decide +kernel
theorem dX9_printLoad_121 : decode cX9_printLoad 121 = .ok (.getfield 50, 3) := by decide +kernel
theorem dX9_printLoad_124 : decode cX9_printLoad 124 = .ok (.bipush 43, 2) := by decide +kernel
theorem dX9_printLoad_126 : decode cX9_printLoad 126 = .ok (.invokevirtual 385, 3) := by decide +kernel
theorem dX9_printLoad_129 : decode cX9_printLoad 129 = .ok (.aload_n 0, 1) := by decide +kernel
theorem dX9_printLoad_130 : decode cX9_printLoad 130 = .ok (.getfield 50, 3) := by decide +kernel
theorem dX9_printLoad_133 : decode cX9_printLoad 133 = .ok (.iload_n 3, 1) := by decide +kernel
theorem dX9_printLoad_134 : decode cX9_printLoad 134 = .ok (.invokevirtual 389, 3) := by decide +kernel
theorem dX9_printLoad_137 : decode cX9_printLoad 137 = .ok (.return_, 1) := by decide +kernel
theorem dJ6_bitCount_0f7a4_0 : decode cJ6_bitCount_0f7a4 0 = .ok (.iload_n 0, 1) := by decide +kernel
theorem dJ6_bitCount_0f7a4_1 : decode cJ6_bitCount_0f7a4 1 = .ok (.iload_n 0, 1) := by decide +kernel
theorem dJ6_bitCount_0f7a4_2 : decode cJ6_bitCount_0f7a4 2 = .ok (.iconst 1, 1) := by decide +kernel
theorem dJ6_bitCount_0f7a4_3 : decode cJ6_bitCount_0f7a4 3 = .ok (.iushr, 1) := by decide +kernel
theorem dJ6_bitCount_0f7a4_4 : decode cJ6_bitCount_0f7a4 4 = .ok (.ldc_w 265, 3) := by decide +kernel
theorem dJ6_bitCount_0f7a4_7 : decode cJ6_bitCount_0f7a4 7 = .ok (.iand, 1) := by decide +kernel
theorem dJ6_bitCount_0f7a4_8 : decode cJ6_bitCount_0f7a4 8 = .ok (.isub, 1) := by decide +kernel
theorem dJ6_bitCount_0f7a4_9 : decode cJ6_bitCount_0f7a4 9 = .ok (.istore_n 0, 1) := by decide +kernel
theorem dJ6_bitCount_0f7a4_10 : decode cJ6_bitCount_0f7a4 10 = .ok (.iload_n 0, 1) := by decide +kernel
theorem dJ6_bitCount_0f7a4_11 : decode cJ6_bitCount_0f7a4 11 = .ok (.ldc_w 266, 3) := by decide +kernel
theorem dJ6_bitCount_0f7a4_14 : decode cJ6_bitCount_0f7a4 14 = .ok (.iand, 1) := by decide +kernel
theorem dJ6_bitCount_0f7a4_15 : decode cJ6_bitCount_0f7a4 15 = .ok (.iload_n 0, 1) := by decide +kernel
theorem dJ6_bitCount_0f7a4_16 : decode cJ6_bitCount_0f7a4 16 = .ok (.iconst 2, 1) := by decide +kernel
theorem dJ6_bitCount_0f7a4_17 : decode cJ6_bitCount_0f7a4 17 = .ok (.iushr, 1) := by decide +kernel
theorem dJ6_bitCount_0f7a4_18 : decode cJ6_bitCount_0f7a4 18 = .ok (.ldc_w 266, 3) := by decide +kernel
theorem dJ6_bitCount_0f7a4_21 : decode cJ6_bitCount_0f7a4 21 = .ok (.iand, 1) := by decide +kernel
theorem dJ6_bitCount_0f7a4_22 : decode cJ6_bitCount_0f7a4 22 = .ok (.iadd, 1) := by decide +kernel
theorem dJ6_bitCount_0f7a4_23 : decode cJ6_bitCount_0f7a4 23 = .ok (.istore_n 0, 1) := by decide +kernel
theorem dJ6_bitCount_0f7a4_24 : decode cJ6_bitCount_0f7a4 24 = .ok (.iload_n 0, 1) := by decide +kernel
theorem dJ6_bitCount_0f7a4_25 : decode cJ6_bitCount_0f7a4 25 = .ok (.iload_n 0, 1) := by decide +kernel
theorem dJ6_bitCount_0f7a4_26 : decode cJ6_bitCount_0f7a4 26 = .ok (.iconst 4, 1) := by decide +kernel
theorem dJ6_bitCount_0f7a4_27 : decode cJ6_bitCount_0f7a4 27 = .ok (.iushr, 1) := by decide +kernel
theorem dJ6_bitCount_0f7a4_28 : decode cJ6_bitCount_0f7a4 28 = .ok (.iadd, 1) := by decide +kernel
theorem dJ6_bitCount_0f7a4_29 : decode cJ6_bitCount_0f7a4 29 = .ok (.ldc_w 267, 3) := by decide +kernel
theorem dJ6_bitCount_0f7a4_32 : decode cJ6_bitCount_0f7a4 32 = .ok (.iand, 1) := by decide +kernel
theorem dJ6_bitCount_0f7a4_33 : decode cJ6_bitCount_0f7a4 33 = .ok (.istore_n 0, 1) := by decide +kernel
theorem dJ6_bitCount_0f7a4_34 : decode cJ6_bitCount_0f7a4 34 = .ok (.iload_n 0, 1) := by decide +kernel
theorem dJ6_bitCount_0f7a4_35 : decode cJ6_bitCount_0f7a4 35 = .ok (.iload_n 0, 1) := by decide +kernel
theorem dJ6_bitCount_0f7a4_36 : decode cJ6_bitCount_0f7a4 36 = .ok (.bipush 8, 2) := by decide +kernel
theorem dJ6_bitCount_0f7a4_38 : decode cJ6_bitCount_0f7a4 38 = .ok (.iushr, 1) := by decide +kernel
theorem dJ6_bitCount_0f7a4_39 : decode cJ6_bitCount_0f7a4 39 = .ok (.iadd, 1) := by decide +kernel
theorem dJ6_bitCount_0f7a4_40 : decode cJ6_bitCount_0f7a4 40 = .ok (.istore_n 0, 1) := by decide +kernel
theorem dJ6_bitCount_0f7a4_41 : decode cJ6_bitCount_0f7a4 41 = .ok (.iload_n 0, 1) := by decide +kernel
theorem dJ6_bitCount_0f7a4_42 : decode cJ6_bitCount_0f7a4 42 = .ok (.iload_n 0, 1) := by decide +kernel
theorem dJ6_bitCount_0f7a4_43 : decode cJ6_bitCount_0f7a4 43 = .ok (.bipush 16, 2) := by decide +kernel
theorem dJ6_bitCount_0f7a4_45 : decode cJ6_bitCount_0f7a4 45 = .ok (.iushr, 1) := by decide +kernel
theorem dJ6_bitCount_0f7a4_46 : decode cJ6_bitCount_0f7a4 46 = .ok (.iadd, 1) := by decide +kernel
theorem dJ6_bitCount_0f7a4_47 : decode cJ6_bitCount_0f7a4 47 = .ok (.istore_n 0, 1) := by decide +kernel
theorem dJ6_bitCount_0f7a4_48 : decode cJ6_bitCount_0f7a4 48 = .ok (.iload_n 0, 1) := by decide +kernel
theorem dJ6_bitCount_0f7a4_49 : decode cJ6_bitCount_0f7a4 49 = .ok (.bipush 63, 2) := by decide +kernel
theorem dJ6_bitCount_0f7a4_51 : decode cJ6_bitCount_0f7a4 51 = .ok (.iand, 1) := by decide +kernel
theorem dJ6_bitCount_0f7a4_52 : decode cJ6_bitCount_0f7a4 52 = .ok (.ireturn, 1) := by decide +kernel
theorem dJ13_bitCount_95d88_0 : decode cJ13_bitCount_95d88 0 = .ok (.lload_n 0, 1) := by decide +kernel
theorem dJ13_bitCount_95d88_1 : decode cJ13_bitCount_95d88 1 = .ok (.lload_n 0, 1) := by decide +kernel
theorem dJ13_bitCount_95d88_2 : decode cJ13_bitCount_95d88 2 = .ok (.iconst 1, 1) := by decide +kernel
theorem dJ13_bitCount_95d88_3 : decode cJ13_bitCount_95d88 3 = .ok (.lushr, 1) := by decide +kernel
theorem dJ13_bitCount_95d88_4 : decode cJ13_bitCount_95d88 4 = .ok (.ldc2_w 314, 3) := by decide +kernel
theorem dJ13_bitCount_95d88_7 : decode cJ13_bitCount_95d88 7 = .ok (.land, 1) := by decide +kernel
theorem dJ13_bitCount_95d88_8 : decode cJ13_bitCount_95d88 8 = .ok (.lsub, 1) := by decide +kernel
theorem dJ13_bitCount_95d88_9 : decode cJ13_bitCount_95d88 9 = .ok (.lstore_n 0, 1) := by decide +kernel
theorem dJ13_bitCount_95d88_10 : decode cJ13_bitCount_95d88 10 = .ok (.lload_n 0, 1) := by decide +kernel
theorem dJ13_bitCount_95d88_11 : decode cJ13_bitCount_95d88 11 = .ok (.ldc2_w 316, 3) := by decide +kernel
theorem dJ13_bitCount_95d88_14 : decode cJ13_bitCount_95d88 14 = .ok (.land, 1) := by decide +kernel
theorem dJ13_bitCount_95d88_15 : decode cJ13_bitCount_95d88 15 = .ok (.lload_n 0, 1) := by decide +kernel
theorem dJ13_bitCount_95d88_16 : decode cJ13_bitCount_95d88 16 = .ok (.iconst 2, 1) := by decide +kernel
theorem dJ13_bitCount_95d88_17 : decode cJ13_bitCount_95d88 17 = .ok (.lushr, 1) := by decide +kernel
theorem dJ13_bitCount_95d88_18 : decode cJ13_bitCount_95d88 18 = .ok (.ldc2_w 316, 3) := by decide +kernel
theorem dJ13_bitCount_95d88_21 : decode cJ13_bitCount_95d88 21 = .ok (.land, 1) := by decide +kernel
theorem dJ13_bitCount_95d88_22 : decode cJ13_bitCount_95d88 22 = .ok (.ladd, 1) := by decide +kernel
theorem dJ13_bitCount_95d88_23 : decode cJ13_bitCount_95d88 23 = .ok (.lstore_n 0, 1) := by decide +kernel
theorem dJ13_bitCount_95d88_24 : decode cJ13_bitCount_95d88 24 = .ok (.lload_n 0, 1) := by decide +kernel
theorem dJ13_bitCount_95d88_25 : decode cJ13_bitCount_95d88 25 = .ok (.lload_n 0, 1) := by decide +kernel
theorem dJ13_bitCount_95d88_26 : decode cJ13_bitCount_95d88 26 = .ok (.iconst 4, 1) := by decide +kernel
theorem dJ13_bitCount_95d88_27 : decode cJ13_bitCount_95d88 27 = .ok (.lushr, 1) := by decide +kernel
theorem dJ13_bitCount_95d88_28 : decode cJ13_bitCount_95d88 28 = .ok (.ladd, 1) := by decide +kernel
theorem dJ13_bitCount_95d88_29 : decode cJ13_bitCount_95d88 29 = .ok (.ldc2_w 318, 3) := by decide +kernel
theorem dJ13_bitCount_95d88_32 : decode cJ13_bitCount_95d88 32 = .ok (.land, 1) := by decide +kernel
theorem dJ13_bitCount_95d88_33 : decode cJ13_bitCount_95d88 33 = .ok (.lstore_n 0, 1) := by decide +kernel
theorem dJ13_bitCount_95d88_34 : decode cJ13_bitCount_95d88 34 = .ok (.lload_n 0, 1) := by decide +kernel
theorem dJ13_bitCount_95d88_35 : decode cJ13_bitCount_95d88 35 = .ok (.lload_n 0, 1) := by decide +kernel
theorem dJ13_bitCount_95d88_36 : decode cJ13_bitCount_95d88 36 = .ok (.bipush 8, 2) := by decide +kernel
theorem dJ13_bitCount_95d88_38 : decode cJ13_bitCount_95d88 38 = .ok (.lushr, 1) := by decide +kernel
theorem dJ13_bitCount_95d88_39 : decode cJ13_bitCount_95d88 39 = .ok (.ladd, 1) := by decide +kernel
theorem dJ13_bitCount_95d88_40 : decode cJ13_bitCount_95d88 40 = .ok (.lstore_n 0, 1) := by decide +kernel
theorem dJ13_bitCount_95d88_41 : decode cJ13_bitCount_95d88 41 = .ok (.lload_n 0, 1) := by decide +kernel
theorem dJ13_bitCount_95d88_42 : decode cJ13_bitCount_95d88 42 = .ok (.lload_n 0, 1) := by decide +kernel
theorem dJ13_bitCount_95d88_43 : decode cJ13_bitCount_95d88 43 = .ok (.bipush 16, 2) := by decide +kernel
theorem dJ13_bitCount_95d88_45 : decode cJ13_bitCount_95d88 45 = .ok (.lushr, 1) := by decide +kernel
theorem dJ13_bitCount_95d88_46 : decode cJ13_bitCount_95d88 46 = .ok (.ladd, 1) := by decide +kernel
theorem dJ13_bitCount_95d88_47 : decode cJ13_bitCount_95d88 47 = .ok (.lstore_n 0, 1) := by decide +kernel
theorem dJ13_bitCount_95d88_48 : decode cJ13_bitCount_95d88 48 = .ok (.lload_n 0, 1) := by decide +kernel
theorem dJ13_bitCount_95d88_49 : decode cJ13_bitCount_95d88 49 = .ok (.lload_n 0, 1) := by decide +kernel
theorem dJ13_bitCount_95d88_50 : decode cJ13_bitCount_95d88 50 = .ok (.bipush 32, 2) := by decide +kernel
theorem dJ13_bitCount_95d88_52 : decode cJ13_bitCount_95d88 52 = .ok (.lushr, 1) := by decide +kernel
theorem dJ13_bitCount_95d88_53 : decode cJ13_bitCount_95d88 53 = .ok (.ladd, 1) := by decide +kernel
theorem dJ13_bitCount_95d88_54 : decode cJ13_bitCount_95d88 54 = .ok (.lstore_n 0, 1) := by decide +kernel
theorem dJ13_bitCount_95d88_55 : decode cJ13_bitCount_95d88 55 = .ok (.lload_n 0, 1) := by decide +kernel
theorem dJ13_bitCount_95d88_56 : decode cJ13_bitCount_95d88 56 = .ok (.l2i, 1) := by decide +kernel
theorem dJ13_bitCount_95d88_57 : decode cJ13_bitCount_95d88 57 = .ok (.bipush 127, 2) := by decide +kernel
theorem dJ13_bitCount_95d88_59 : decode cJ13_bitCount_95d88 59 = .ok (.iand, 1) := by decide +kernel
theorem dJ13_bitCount_95d88_60 : decode cJ13_bitCount_95d88 60 = .ok (.ireturn, 1) := by decide +kernel
theorem dJ9_abs_0f7a4_0 : decode cJ9_abs_0f7a4 0 = .ok (.iload_n 0, 1) := by decide +kernel
theorem dJ9_abs_0f7a4_1 : decode cJ9_abs_0f7a4 1 = .ok (.ifCond .ge 8, 3) := by decide +kernel
theorem dJ9_abs_0f7a4_4 : decode cJ9_abs_0f7a4 4 = .ok (.iload_n 0, 1) := by decide +kernel
theorem dJ9_abs_0f7a4_5 : decode cJ9_abs_0f7a4 5 = .ok (.ineg, 1) := by decide +kernel
theorem dJ9_abs_0f7a4_6 : decode cJ9_abs_0f7a4 6 = .ok (.goto 4, 3) := by decide +kernel
theorem dJ9_abs_0f7a4_9 : decode cJ9_abs_0f7a4 9 = .ok (.iload_n 0, 1) := by decide +kernel
theorem dJ9_abs_0f7a4_10 : decode cJ9_abs_0f7a4 10 = .ok (.ireturn, 1) := by decide +kernel
theorem dJ9_max_7cf53_0 : decode cJ9_max_7cf53 0 = .ok (.iload_n 0, 1) := by decide +kernel
theorem dJ9_max_7cf53_1 : decode cJ9_max_7cf53 1 = .ok (.iload_n 1, 1) := by decide +kernel
theorem dJ9_max_7cf53_2 : decode cJ9_max_7cf53 2 = .ok (.if_icmp .lt 7, 3) := by decide +kernel
theorem dJ9_max_7cf53_5 : decode cJ9_max_7cf53 5 = .ok (.iload_n 0, 1) := by decide +kernel
theorem dJ9_max_7cf53_6 : decode cJ9_max_7cf53 6 = .ok (.goto 4, 3) := by decide +kernel
theorem dJ9_max_7cf53_9 : decode cJ9_max_7cf53 9 = .ok (.iload_n 1, 1) := by decide +kernel
theorem dJ9_max_7cf53_10 : decode cJ9_max_7cf53 10 = .ok (.ireturn, 1) := by decide +kernel
theorem dJ9_max_f86c9_0 : decode cJ9_max_f86c9 0 = .ok (.lload_n 0, 1) := by decide +kernel
theorem dJ9_max_f86c9_1 : decode cJ9_max_f86c9 1 = .ok (.lload_n 2, 1) := by decide +kernel
theorem dJ9_max_f86c9_2 : decode cJ9_max_f86c9 2 = .ok (.lcmp, 1) := by decide +kernel
theorem dJ9_max_f86c9_3 : decode cJ9_max_f86c9 3 = .ok (.ifCond .lt 7, 3) := by decide +kernel
theorem dJ9_max_f86c9_6 : decode cJ9_max_f86c9 6 = .ok (.lload_n 0, 1) := by decide +kernel
theorem dJ9_max_f86c9_7 : decode cJ9_max_f86c9 7 = .ok (.goto 4, 3) := by decide +kernel
theorem dJ9_max_f86c9_10 : decode cJ9_max_f86c9 10 = .ok (.lload_n 2, 1) := by decide +kernel
theorem dJ9_max_f86c9_11 : decode cJ9_max_f86c9 11 = .ok (.lreturn, 1) := by decide +kernel
theorem dJ9_min_7cf53_0 : decode cJ9_min_7cf53 0 = .ok (.iload_n 0, 1) := by decide +kernel
theorem dJ9_min_7cf53_1 : decode cJ9_min_7cf53 1 = .ok (.iload_n 1, 1) := by decide +kernel
theorem dJ9_min_7cf53_2 : decode cJ9_min_7cf53 2 = .ok (.if_icmp .gt 7, 3) := by decide +kernel
theorem dJ9_min_7cf53_5 : decode cJ9_min_7cf53 5 = .ok (.iload_n 0, 1) := by decide +kernel
theorem dJ9_min_7cf53_6 : decode cJ9_min_7cf53 6 = .ok (.goto 4, 3) := by decide +kernel
theorem dJ9_min_7cf53_9 : decode cJ9_min_7cf53 9 = .ok (.iload_n 1, 1) := by decide +kernel
theorem dJ9_min_7cf53_10 : decode cJ9_min_7cf53 10 = .ok (.ireturn, 1) := by decide +kernel
theorem dJ9_min_f86c9_0 : decode cJ9_min_f86c9 0 = .ok (.lload_n 0, 1) := by decide +kernel
theorem dJ9_min_f86c9_1 : decode cJ9_min_f86c9 1 = .ok (.lload_n 2, 1) := by decide +kernel
theorem dJ9_min_f86c9_2 : decode cJ9_min_f86c9 2 = .ok (.lcmp, 1) := by decide +kernel
theorem dJ9_min_f86c9_3 : decode cJ9_min_f86c9 3 = .ok (.ifCond .gt 7, 3) := by decide +kernel
theorem dJ9_min_f86c9_6 : decode cJ9_min_f86c9 6 = .ok (.lload_n 0, 1) := by decide +kernel
theorem dJ9_min_f86c9_7 : decode cJ9_min_f86c9 7 = .ok (.goto 4, 3) := by decide +kernel
theorem dJ9_min_f86c9_10 : decode cJ9_min_f86c9 10 = .ok (.lload_n 2, 1) := by decide +kernel
theorem dJ9_min_f86c9_11 : decode cJ9_min_f86c9 11 = .ok (.lreturn, 1) := by decide +kernel
theorem dJ0_length_8abf5_0 : decode cJ0_length_8abf5 0 = .ok (.aload_n 0, 1) := by decide +kernel
theorem dJ0_length_8abf5_1 : decode cJ0_length_8abf5 1 = .ok (.getfield 9, 3) := by decide +kernel
theorem dJ0_length_8abf5_4 : decode cJ0_length_8abf5 4 = .ok (.arraylength, 1) := by decide +kernel
theorem dJ0_length_8abf5_5 : decode cJ0_length_8abf5 5 = .ok (.aload_n 0, 1) := by decide +kernel
theorem dJ0_length_8abf5_6 : decode cJ0_length_8abf5 6 = .ok (.invokevirtual 335, 3) := by decide +kernel
theorem dJ0_length_8abf5_9 : decode cJ0_length_8abf5 9 = .ok (.ishr, 1) := by decide +kernel
theorem dJ0_length_8abf5_10 : decode cJ0_length_8abf5 10 = .ok (.ireturn, 1) := by decide +kernel
theorem dJ0_charAt_5068e_0 : decode cJ0_charAt_5068e 0 = .ok (.aload_n 0, 1) := by decide +kernel
theorem dJ0_charAt_5068e_1 : decode cJ0_charAt_5068e 1 = .ok (.invokevirtual 492, 3) := by decide +kernel
theorem dJ0_charAt_5068e_4 : decode cJ0_charAt_5068e 4 = .ok (.ifCond .eq 12, 3) := by decide +kernel
theorem dJ0_charAt_5068e_7 : decode cJ0_charAt_5068e 7 = .ok (.aload_n 0, 1) := by decide +kernel
theorem dJ0_charAt_5068e_8 : decode cJ0_charAt_5068e 8 = .ok (.getfield 9, 3) := by decide +kernel
theorem dJ0_charAt_5068e_11 : decode cJ0_charAt_5068e 11 = .ok (.iload_n 1, 1) := by decide +kernel
theorem dJ0_charAt_5068e_12 : decode cJ0_charAt_5068e 12 = .ok (.invokestatic 495, 3) := by decide +kernel
theorem dJ0_charAt_5068e_15 : decode cJ0_charAt_5068e 15 = .ok (.ireturn, 1) := by decide +kernel
theorem dJ0_charAt_5068e_16 : decode cJ0_charAt_5068e 16 = .ok (.aload_n 0, 1) := by decide +kernel
theorem dJ0_charAt_5068e_17 : decode cJ0_charAt_5068e 17 = .ok (.getfield 9, 3) := by decide +kernel
theorem dJ0_charAt_5068e_20 : decode cJ0_charAt_5068e 20 = .ok (.iload_n 1, 1) := by decide +kernel
theorem dJ0_charAt_5068e_21 : decode cJ0_charAt_5068e 21 = .ok (.invokestatic 498, 3) := by decide +kernel
theorem dJ0_charAt_5068e_24 : decode cJ0_charAt_5068e 24 = .ok (.ireturn, 1) := by decide +kernel
theorem dJ0_coder_7d493_0 : decode cJ0_coder_7d493 0 = .ok (.getstatic 38, 3) := by decide +kernel
theorem dJ0_coder_7d493_3 : decode cJ0_coder_7d493 3 = .ok (.ifCond .eq 10, 3) := by decide +kernel
theorem dJ0_coder_7d493_6 : decode cJ0_coder_7d493 6 = .ok (.aload_n 0, 1) := by decide +kernel
theorem dJ0_coder_7d493_7 : decode cJ0_coder_7d493 7 = .ok (.getfield 15, 3) := by decide +kernel
theorem dJ0_coder_7d493_10 : decode cJ0_coder_7d493 10 = .ok (.goto 4, 3) := by decide +kernel
theorem dJ0_coder_7d493_13 : decode cJ0_coder_7d493 13 = .ok (.iconst 1, 1) := by decide +kernel
theorem dJ0_coder_7d493_14 : decode cJ0_coder_7d493 14 = .ok (.ireturn, 1) := by decide +kernel
theorem dJ0_isLatin1_aae02_0 : decode cJ0_isLatin1_aae02 0 = .ok (.getstatic 38, 3) := by decide +kernel
theorem dJ0_isLatin1_aae02_3 : decode cJ0_isLatin1_aae02 3 = .ok (.ifCond .eq 14, 3) := by decide +kernel
theorem dJ0_isLatin1_aae02_6 : decode cJ0_isLatin1_aae02 6 = .ok (.aload_n 0, 1) := by decide +kernel
theorem dJ0_isLatin1_aae02_7 : decode cJ0_isLatin1_aae02 7 = .ok (.getfield 15, 3) := by decide +kernel
theorem dJ0_isLatin1_aae02_10 : decode cJ0_isLatin1_aae02 10 = .ok (.ifCond .ne 7, 3) := by decide +kernel
theorem dJ0_isLatin1_aae02_13 : decode cJ0_isLatin1_aae02 13 = .ok (.iconst 1, 1) := by decide +kernel
theorem dJ0_isLatin1_aae02_14 : decode cJ0_isLatin1_aae02 14 = .ok (.goto 4, 3) := by decide +kernel
theorem dJ0_isLatin1_aae02_17 : decode cJ0_isLatin1_aae02 17 = .ok (.iconst 0, 1) := by decide +kernel
theorem dJ0_isLatin1_aae02_18 : decode cJ0_isLatin1_aae02 18 = .ok (.ireturn, 1) := by decide +kernel
theorem dJ0_checkIndex_df160_0 : decode cJ0_checkIndex_df160 0 = .ok (.iload_n 0, 1) := by decide +kernel
theorem dJ0_checkIndex_df160_1 : decode cJ0_checkIndex_df160 1 = .ok (.iload_n 1, 1) := by decide +kernel
theorem dJ0_checkIndex_df160_2 : decode cJ0_checkIndex_df160 2 = .ok (.getstatic 1053, 3) := by decide +kernel
theorem dJ0_checkIndex_df160_5 : decode cJ0_checkIndex_df160 5 = .ok (.invokestatic 1059, 3) := by decide +kernel
theorem dJ0_checkIndex_df160_8 : decode cJ0_checkIndex_df160 8 = .ok (.pop, 1) := by decide +kernel
theorem dJ0_checkIndex_df160_9 : decode cJ0_checkIndex_df160 9 = .ok (.return_, 1) := by decide +kernel
theorem dJ1_charAt_3b067_0 : decode cJ1_charAt_3b067 0 = .ok (.iload_n 1, 1) := by decide +kernel
theorem dJ1_charAt_3b067_1 : decode cJ1_charAt_3b067 1 = .ok (.aload_n 0, 1) := by decide +kernel
theorem dJ1_charAt_3b067_2 : decode cJ1_charAt_3b067 2 = .ok (.arraylength, 1) := by decide +kernel
theorem dJ1_charAt_3b067_3 : decode cJ1_charAt_3b067 3 = .ok (.invokestatic 9, 3) := by decide +kernel
theorem dJ1_charAt_3b067_6 : decode cJ1_charAt_3b067 6 = .ok (.aload_n 0, 1) := by decide +kernel
theorem dJ1_charAt_3b067_7 : decode cJ1_charAt_3b067 7 = .ok (.iload_n 1, 1) := by decide +kernel
theorem dJ1_charAt_3b067_8 : decode cJ1_charAt_3b067 8 = .ok (.baload, 1) := by decide +kernel
theorem dJ1_charAt_3b067_9 : decode cJ1_charAt_3b067 9 = .ok (.sipush 255, 3) := by decide +kernel
theorem dJ1_charAt_3b067_12 : decode cJ1_charAt_3b067 12 = .ok (.iand, 1) := by decide +kernel
theorem dJ1_charAt_3b067_13 : decode cJ1_charAt_3b067 13 = .ok (.i2c, 1) := by decide +kernel
theorem dJ1_charAt_3b067_14 : decode cJ1_charAt_3b067 14 = .ok (.ireturn, 1) := by decide +kernel
theorem dJ2_getChar_3b067_0 : decode cJ2_getChar_3b067 0 = .ok (.getstatic 44, 3) := by decide +kernel
theorem dJ2_getChar_3b067_3 : decode cJ2_getChar_3b067 3 = .ok (.ifCond .ne 25, 3) := by decide +kernel
theorem dJ2_getChar_3b067_6 : decode cJ2_getChar_3b067 6 = .ok (.iload_n 1, 1) := by decide +kernel
theorem dJ2_getChar_3b067_7 : decode cJ2_getChar_3b067 7 = .ok (.ifCond .lt 11, 3) := by decide +kernel
theorem dJ2_getChar_3b067_10 : decode cJ2_getChar_3b067 10 = .ok (.iload_n 1, 1) := by decide +kernel
theorem dJ2_getChar_3b067_11 : decode cJ2_getChar_3b067 11 = .ok (.aload_n 0, 1) := by decide +kernel
theorem dJ2_getChar_3b067_12 : decode cJ2_getChar_3b067 12 = .ok (.invokestatic 48, 3) := by decide +kernel
theorem dJ2_getChar_3b067_15 : decode cJ2_getChar_3b067 15 = .ok (.if_icmp .lt 13, 3) := by decide +kernel
theorem dJ2_getChar_3b067_18 : decode cJ2_getChar_3b067 18 = .ok (.new 52, 3) := by decide +kernel
theorem dJ2_getChar_3b067_21 : decode cJ2_getChar_3b067 21 = .ok (.dup, 1) := by decide +kernel
theorem dJ2_getChar_3b067_22 : decode cJ2_getChar_3b067 22 = .ok (.ldc 54, 2) := by decide +kernel
theorem dJ2_getChar_3b067_24 : decode cJ2_getChar_3b067 24 = .ok (.invokespecial 56, 3) := by decide +kernel
theorem dJ2_getChar_3b067_27 : decode cJ2_getChar_3b067 27 = .ok (.athrow, 1) := by decide +kernel
theorem dJ2_getChar_3b067_28 : decode cJ2_getChar_3b067 28 = .ok (.iload_n 1, 1) := by decide +kernel
theorem dJ2_getChar_3b067_29 : decode cJ2_getChar_3b067 29 = .ok (.iconst 1, 1) := by decide +kernel
theorem dJ2_getChar_3b067_30 : decode cJ2_getChar_3b067 30 = .ok (.ishl, 1) := by decide +kernel
theorem dJ2_getChar_3b067_31 : decode cJ2_getChar_3b067 31 = .ok (.istore_n 1, 1) := by decide +kernel
theorem dJ2_getChar_3b067_32 : decode cJ2_getChar_3b067 32 = .ok (.aload_n 0, 1) := by decide +kernel
theorem dJ2_getChar_3b067_33 : decode cJ2_getChar_3b067 33 = .ok (.iload_n 1, 1) := by decide +kernel
theorem dJ2_getChar_3b067_34 : decode cJ2_getChar_3b067 34 = .ok (.iinc 1 1, 3) := by decide +kernel
theorem dJ2_getChar_3b067_37 : decode cJ2_getChar_3b067 37 = .ok (.baload, 1) := by decide +kernel
theorem dJ2_getChar_3b067_38 : decode cJ2_getChar_3b067 38 = .ok (.sipush 255, 3) := by decide +kernel
theorem dJ2_getChar_3b067_41 : decode cJ2_getChar_3b067 41 = .ok (.iand, 1) := by decide +kernel
theorem dJ2_getChar_3b067_42 : decode cJ2_getChar_3b067 42 = .ok (.getstatic 59, 3) := by decide +kernel
theorem dJ2_getChar_3b067_45 : decode cJ2_getChar_3b067 45 = .ok (.ishl, 1) := by decide +kernel
theorem dJ2_getChar_3b067_46 : decode cJ2_getChar_3b067 46 = .ok (.aload_n 0, 1) := by decide +kernel
theorem dJ2_getChar_3b067_47 : decode cJ2_getChar_3b067 47 = .ok (.iload_n 1, 1) := by decide +kernel
theorem dJ2_getChar_3b067_48 : decode cJ2_getChar_3b067 48 = .ok (.baload, 1) := by decide +kernel
theorem dJ2_getChar_3b067_49 : decode cJ2_getChar_3b067 49 = .ok (.sipush 255, 3) := by decide +kernel
theorem dJ2_getChar_3b067_52 : decode cJ2_getChar_3b067 52 = .ok (.iand, 1) := by decide +kernel
theorem dJ2_getChar_3b067_53 : decode cJ2_getChar_3b067 53 = .ok (.getstatic 63, 3) := by decide +kernel
theorem dJ2_getChar_3b067_56 : decode cJ2_getChar_3b067 56 = .ok (.ishl, 1) := by decide +kernel
theorem dJ2_getChar_3b067_57 : decode cJ2_getChar_3b067 57 = .ok (.ior, 1) := by decide +kernel
theorem dJ2_getChar_3b067_58 : decode cJ2_getChar_3b067 58 = .ok (.i2c, 1) := by decide +kernel
theorem dJ2_getChar_3b067_59 : decode cJ2_getChar_3b067 59 = .ok (.ireturn, 1) := by decide +kernel
theorem dJ2_length_9d52b_0 : decode cJ2_length_9d52b 0 = .ok (.aload_n 0, 1) := by decide +kernel
theorem dJ2_length_9d52b_1 : decode cJ2_length_9d52b 1 = .ok (.arraylength, 1) := by decide +kernel
theorem dJ2_length_9d52b_2 : decode cJ2_length_9d52b 2 = .ok (.iconst 1, 1) := by decide +kernel
theorem dJ2_length_9d52b_3 : decode cJ2_length_9d52b 3 = .ok (.ishr, 1) := by decide +kernel
theorem dJ2_length_9d52b_4 : decode cJ2_length_9d52b 4 = .ok (.ireturn, 1) := by decide +kernel
theorem dJ2_charAt_3b067_0 : decode cJ2_charAt_3b067 0 = .ok (.iload_n 1, 1) := by decide +kernel
theorem dJ2_charAt_3b067_1 : decode cJ2_charAt_3b067 1 = .ok (.aload_n 0, 1) := by decide +kernel
theorem dJ2_charAt_3b067_2 : decode cJ2_charAt_3b067 2 = .ok (.invokestatic 67, 3) := by decide +kernel
theorem dJ2_charAt_3b067_5 : decode cJ2_charAt_3b067 5 = .ok (.aload_n 0, 1) := by decide +kernel
theorem dJ2_charAt_3b067_6 : decode cJ2_charAt_3b067 6 = .ok (.iload_n 1, 1) := by decide +kernel
theorem dJ2_charAt_3b067_7 : decode cJ2_charAt_3b067 7 = .ok (.invokestatic 71, 3) := by decide +kernel
theorem dJ2_charAt_3b067_10 : decode cJ2_charAt_3b067 10 = .ok (.ireturn, 1) := by decide +kernel
theorem dJ2_checkIndex_2214a_0 : decode cJ2_checkIndex_2214a 0 = .ok (.iload_n 0, 1) := by decide +kernel
theorem dJ2_checkIndex_2214a_1 : decode cJ2_checkIndex_2214a 1 = .ok (.aload_n 1, 1) := by decide +kernel
theorem dJ2_checkIndex_2214a_2 : decode cJ2_checkIndex_2214a 2 = .ok (.invokestatic 48, 3) := by decide +kernel
theorem dJ2_checkIndex_2214a_5 : decode cJ2_checkIndex_2214a 5 = .ok (.invokestatic 414, 3) := by decide +kernel
theorem dJ2_checkIndex_2214a_8 : decode cJ2_checkIndex_2214a 8 = .ok (.return_, 1) := by decide +kernel
theorem dJ7_fill_d0a16_0 : decode cJ7_fill_d0a16 0 = .ok (.iconst 0, 1) := by decide +kernel
theorem dJ7_fill_d0a16_1 : decode cJ7_fill_d0a16 1 = .ok (.istore_n 3, 1) := by decide +kernel
theorem dJ7_fill_d0a16_2 : decode cJ7_fill_d0a16 2 = .ok (.aload_n 0, 1) := by decide +kernel
theorem dJ7_fill_d0a16_3 : decode cJ7_fill_d0a16 3 = .ok (.arraylength, 1) := by decide +kernel
theorem dJ7_fill_d0a16_4 : decode cJ7_fill_d0a16 4 = .ok (.istore 4, 2) := by decide +kernel
theorem dJ7_fill_d0a16_6 : decode cJ7_fill_d0a16 6 = .ok (.iload_n 3, 1) := by decide +kernel
theorem dJ7_fill_d0a16_7 : decode cJ7_fill_d0a16 7 = .ok (.iload 4, 2) := by decide +kernel
theorem dJ7_fill_d0a16_9 : decode cJ7_fill_d0a16 9 = .ok (.if_icmp .ge 13, 3) := by decide +kernel
theorem dJ7_fill_d0a16_12 : decode cJ7_fill_d0a16 12 = .ok (.aload_n 0, 1) := by decide +kernel
theorem dJ7_fill_d0a16_13 : decode cJ7_fill_d0a16 13 = .ok (.iload_n 3, 1) := by decide +kernel
theorem dJ7_fill_d0a16_14 : decode cJ7_fill_d0a16 14 = .ok (.lload_n 1, 1) := by decide +kernel
theorem dJ7_fill_d0a16_15 : decode cJ7_fill_d0a16 15 = .ok (.lastore, 1) := by decide +kernel
theorem dJ7_fill_d0a16_16 : decode cJ7_fill_d0a16 16 = .ok (.iinc 3 1, 3) := by decide +kernel
theorem dJ7_fill_d0a16_19 : decode cJ7_fill_d0a16 19 = .ok (.goto (-13), 3) := by decide +kernel
theorem dJ7_fill_d0a16_22 : decode cJ7_fill_d0a16 22 = .ok (.return_, 1) := by decide +kernel
theorem dJ7_fill_53178_0 : decode cJ7_fill_53178 0 = .ok (.iconst 0, 1) := by decide +kernel
theorem dJ7_fill_53178_1 : decode cJ7_fill_53178 1 = .ok (.istore_n 2, 1) := by decide +kernel
theorem dJ7_fill_53178_2 : decode cJ7_fill_53178 2 = .ok (.aload_n 0, 1) := by decide +kernel
theorem dJ7_fill_53178_3 : decode cJ7_fill_53178 3 = .ok (.arraylength, 1) := by decide +kernel
theorem dJ7_fill_53178_4 : decode cJ7_fill_53178 4 = .ok (.istore_n 3, 1) := by decide +kernel
theorem dJ7_fill_53178_5 : decode cJ7_fill_53178 5 = .ok (.iload_n 2, 1) := by decide +kernel
theorem dJ7_fill_53178_6 : decode cJ7_fill_53178 6 = .ok (.iload_n 3, 1) := by decide +kernel
theorem dJ7_fill_53178_7 : decode cJ7_fill_53178 7 = .ok (.if_icmp .ge 13, 3) := by decide +kernel
theorem dJ7_fill_53178_10 : decode cJ7_fill_53178 10 = .ok (.aload_n 0, 1) := by decide +kernel
theorem dJ7_fill_53178_11 : decode cJ7_fill_53178 11 = .ok (.iload_n 2, 1) := by decide +kernel
theorem dJ7_fill_53178_12 : decode cJ7_fill_53178 12 = .ok (.iload_n 1, 1) := by decide +kernel
theorem dJ7_fill_53178_13 : decode cJ7_fill_53178 13 = .ok (.iastore, 1) := by decide +kernel
theorem dJ7_fill_53178_14 : decode cJ7_fill_53178 14 = .ok (.iinc 2 1, 3) := by decide +kernel
theorem dJ7_fill_53178_17 : decode cJ7_fill_53178 17 = .ok (.goto (-12), 3) := by decide +kernel
theorem dJ7_fill_53178_20 : decode cJ7_fill_53178 20 = .ok (.return_, 1) := by decide +kernel
theorem dJ3_checkIndex_8e157_0 : decode cJ3_checkIndex_8e157 0 = .ok (.iload_n 0, 1) := by decide +kernel
theorem dJ3_checkIndex_8e157_1 : decode cJ3_checkIndex_8e157 1 = .ok (.ifCond .lt 8, 3) := by decide +kernel
theorem dJ3_checkIndex_8e157_4 : decode cJ3_checkIndex_8e157 4 = .ok (.iload_n 0, 1) := by decide +kernel
theorem dJ3_checkIndex_8e157_5 : decode cJ3_checkIndex_8e157 5 = .ok (.iload_n 1, 1) := by decide +kernel
theorem dJ3_checkIndex_8e157_6 : decode cJ3_checkIndex_8e157 6 = .ok (.if_icmp .lt 10, 3) := by decide +kernel
theorem dJ3_checkIndex_8e157_9 : decode cJ3_checkIndex_8e157 9 = .ok (.aload_n 2, 1) := by decide +kernel
theorem dJ3_checkIndex_8e157_10 : decode cJ3_checkIndex_8e157 10 = .ok (.iload_n 0, 1) := by decide +kernel
theorem dJ3_checkIndex_8e157_11 : decode cJ3_checkIndex_8e157 11 = .ok (.iload_n 1, 1) := by decide +kernel
theorem dJ3_checkIndex_8e157_12 : decode cJ3_checkIndex_8e157 12 = .ok (.invokestatic 95, 3) := by decide +kernel
theorem dJ3_checkIndex_8e157_15 : decode cJ3_checkIndex_8e157 15 = .ok (.athrow, 1) := by decide +kernel
theorem dJ3_checkIndex_8e157_16 : decode cJ3_checkIndex_8e157 16 = .ok (.iload_n 0, 1) := by decide +kernel
theorem dJ3_checkIndex_8e157_17 : decode cJ3_checkIndex_8e157 17 = .ok (.ireturn, 1) := by decide +kernel
