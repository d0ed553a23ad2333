theorem dL_count_0 : decode cL_count 0 = .ok (.aload_n 2, 1) := by decide +kernel
theorem dL_count_1 : decode cL_count 1 = .ok (.iconst 0, 1) := by decide +kernel
theorem dL_count_2 : decode cL_count 2 = .ok (.aload_n 0, 1) := by decide +kernel
theorem dL_count_3 : decode cL_count 3 = .ok (.iload_n 1, 1) := by decide +kernel
theorem dL_count_4 : decode cL_count 4 = .ok (.invokevirtual 7, 3) := by decide +kernel
theorem dL_count_7 : decode cL_count 7 = .ok (.i2l, 1) := by decide +kernel
theorem dL_count_8 : decode cL_count 8 = .ok (.lastore, 1) := by decide +kernel
theorem dL_count_9 : decode cL_count 9 = .ok (.goto 6, 3) := by decide +kernel
theorem dL_count_12 : decode cL_count 12 = .ok (.astore_n 3, 1) := by decide +kernel
theorem dL_count_13 : decode cL_count 13 = .ok (.iconst 1, 1) := by decide +kernel
theorem dL_count_14 : decode cL_count 14 = .ok (.ireturn, 1) := by decide +kernel
theorem dL_count_15 : decode cL_count 15 = .ok (.iconst 0, 1) := by decide +kernel
theorem dL_count_16 : decode cL_count 16 = .ok (.ireturn, 1) := by decide +kernel
theorem dL_setting_0 : decode cL_setting 0 = .ok (.aload_n 2, 1) := by decide +kernel
theorem dL_setting_1 : decode cL_setting 1 = .ok (.iconst 0, 1) := by decide +kernel
theorem dL_setting_2 : decode cL_setting 2 = .ok (.aload_n 0, 1) := by decide +kernel
theorem dL_setting_3 : decode cL_setting 3 = .ok (.iload_n 1, 1) := by decide +kernel
theorem dL_setting_4 : decode cL_setting 4 = .ok (.invokevirtual 15, 3) := by decide +kernel
theorem dL_setting_7 : decode cL_setting 7 = .ok (.i2l, 1) := by decide +kernel
theorem dL_setting_8 : decode cL_setting 8 = .ok (.lastore, 1) := by decide +kernel
theorem dL_setting_9 : decode cL_setting 9 = .ok (.goto 6, 3) := by decide +kernel
theorem dL_setting_12 : decode cL_setting 12 = .ok (.astore_n 3, 1) := by decide +kernel
theorem dL_setting_13 : decode cL_setting 13 = .ok (.iconst 1, 1) := by decide +kernel
theorem dL_setting_14 : decode cL_setting 14 = .ok (.ireturn, 1) := by decide +kernel
theorem dL_setting_15 : decode cL_setting 15 = .ok (.iconst 0, 1) := by decide +kernel
theorem dL_setting_16 : decode cL_setting 16 = .ok (.ireturn, 1) := by decide +kernel
theorem dL_cell_0 : decode cL_cell 0 = .ok (.aload_n 3, 1) := by decide +kernel
theorem dL_cell_1 : decode cL_cell 1 = .ok (.iconst 0, 1) := by decide +kernel
theorem dL_cell_2 : decode cL_cell 2 = .ok (.aload_n 0, 1) := by decide +kernel
theorem dL_cell_3 : decode cL_cell 3 = .ok (.iload_n 1, 1) := by decide +kernel
theorem dL_cell_4 : decode cL_cell 4 = .ok (.iload_n 2, 1) := by decide +kernel
theorem dL_cell_5 : decode cL_cell 5 = .ok (.invokevirtual 18, 3) := by decide +kernel
theorem dL_cell_8 : decode cL_cell 8 = .ok (.i2l, 1) := by decide +kernel
theorem dL_cell_9 : decode cL_cell 9 = .ok (.lastore, 1) := by decide +kernel
theorem dL_cell_10 : decode cL_cell 10 = .ok (.goto 11, 3) := by decide +kernel
theorem dL_cell_13 : decode cL_cell 13 = .ok (.astore 4, 2) := by decide +kernel
theorem dL_cell_15 : decode cL_cell 15 = .ok (.iconst 1, 1) := by decide +kernel
theorem dL_cell_16 : decode cL_cell 16 = .ok (.ireturn, 1) := by decide +kernel
theorem dL_cell_17 : decode cL_cell 17 = .ok (.astore 4, 2) := by decide +kernel
theorem dL_cell_19 : decode cL_cell 19 = .ok (.iconst 2, 1) := by decide +kernel
theorem dL_cell_20 : decode cL_cell 20 = .ok (.ireturn, 1) := by decide +kernel
theorem dL_cell_21 : decode cL_cell 21 = .ok (.iconst 0, 1) := by decide +kernel
theorem dL_cell_22 : decode cL_cell 22 = .ok (.ireturn, 1) := by decide +kernel
theorem dL_worn_0 : decode cL_worn 0 = .ok (.aload_n 2, 1) := by decide +kernel
theorem dL_worn_1 : decode cL_worn 1 = .ok (.iconst 0, 1) := by decide +kernel
theorem dL_worn_2 : decode cL_worn 2 = .ok (.aload_n 0, 1) := by decide +kernel
theorem dL_worn_3 : decode cL_worn 3 = .ok (.iload_n 1, 1) := by decide +kernel
theorem dL_worn_4 : decode cL_worn 4 = .ok (.invokevirtual 24, 3) := by decide +kernel
theorem dL_worn_7 : decode cL_worn 7 = .ok (.lastore, 1) := by decide +kernel
theorem dL_worn_8 : decode cL_worn 8 = .ok (.goto 6, 3) := by decide +kernel
theorem dL_worn_11 : decode cL_worn 11 = .ok (.astore_n 3, 1) := by decide +kernel
theorem dL_worn_12 : decode cL_worn 12 = .ok (.iconst 1, 1) := by decide +kernel
theorem dL_worn_13 : decode cL_worn 13 = .ok (.ireturn, 1) := by decide +kernel
theorem dL_worn_14 : decode cL_worn 14 = .ok (.iconst 0, 1) := by decide +kernel
theorem dL_worn_15 : decode cL_worn 15 = .ok (.ireturn, 1) := by decide +kernel
theorem dL_capacity_0 : decode cL_capacity 0 = .ok (.aload_n 2, 1) := by decide +kernel
theorem dL_capacity_1 : decode cL_capacity 1 = .ok (.iconst 0, 1) := by decide +kernel
theorem dL_capacity_2 : decode cL_capacity 2 = .ok (.aload_n 0, 1) := by decide +kernel
theorem dL_capacity_3 : decode cL_capacity 3 = .ok (.iload_n 1, 1) := by decide +kernel
theorem dL_capacity_4 : decode cL_capacity 4 = .ok (.invokevirtual 28, 3) := by decide +kernel
theorem dL_capacity_7 : decode cL_capacity 7 = .ok (.lastore, 1) := by decide +kernel
theorem dL_capacity_8 : decode cL_capacity 8 = .ok (.goto 6, 3) := by decide +kernel
theorem dL_capacity_11 : decode cL_capacity 11 = .ok (.astore_n 3, 1) := by decide +kernel
theorem dL_capacity_12 : decode cL_capacity 12 = .ok (.iconst 1, 1) := by decide +kernel
theorem dL_capacity_13 : decode cL_capacity 13 = .ok (.ireturn, 1) := by decide +kernel
theorem dL_capacity_14 : decode cL_capacity 14 = .ok (.iconst 0, 1) := by decide +kernel
theorem dL_capacity_15 : decode cL_capacity 15 = .ok (.ireturn, 1) := by decide +kernel
theorem dL_layer_0 : decode cL_layer 0 = .ok (.aload 4, 2) := by decide +kernel
theorem dL_layer_2 : decode cL_layer 2 = .ok (.iconst 0, 1) := by decide +kernel
theorem dL_layer_3 : decode cL_layer 3 = .ok (.aload_n 0, 1) := by decide +kernel
theorem dL_layer_4 : decode cL_layer 4 = .ok (.iload_n 1, 1) := by decide +kernel
theorem dL_layer_5 : decode cL_layer 5 = .ok (.iload_n 2, 1) := by decide +kernel
theorem dL_layer_6 : decode cL_layer 6 = .ok (.iload_n 3, 1) := by decide +kernel
theorem dL_layer_7 : decode cL_layer 7 = .ok (.invokevirtual 31, 3) := by decide +kernel
theorem dL_layer_10 : decode cL_layer 10 = .ok (.i2l, 1) := by decide +kernel
theorem dL_layer_11 : decode cL_layer 11 = .ok (.lastore, 1) := by decide +kernel
theorem dL_layer_12 : decode cL_layer 12 = .ok (.goto 11, 3) := by decide +kernel
theorem dL_layer_15 : decode cL_layer 15 = .ok (.astore 5, 2) := by decide +kernel
theorem dL_layer_17 : decode cL_layer 17 = .ok (.iconst 1, 1) := by decide +kernel
theorem dL_layer_18 : decode cL_layer 18 = .ok (.ireturn, 1) := by decide +kernel
theorem dL_layer_19 : decode cL_layer 19 = .ok (.astore 5, 2) := by decide +kernel
theorem dL_layer_21 : decode cL_layer 21 = .ok (.iconst 2, 1) := by decide +kernel
theorem dL_layer_22 : decode cL_layer 22 = .ok (.ireturn, 1) := by decide +kernel
theorem dL_layer_23 : decode cL_layer 23 = .ok (.iconst 0, 1) := by decide +kernel
theorem dL_layer_24 : decode cL_layer 24 = .ok (.ireturn, 1) := by decide +kernel
theorem dL_core_0 : decode cL_core 0 = .ok (.aload_n 3, 1) := by decide +kernel
theorem dL_core_1 : decode cL_core 1 = .ok (.iconst 0, 1) := by decide +kernel
theorem dL_core_2 : decode cL_core 2 = .ok (.aload_n 0, 1) := by decide +kernel
theorem dL_core_3 : decode cL_core 3 = .ok (.iload_n 1, 1) := by decide +kernel
theorem dL_core_4 : decode cL_core 4 = .ok (.iload_n 2, 1) := by decide +kernel
theorem dL_core_5 : decode cL_core 5 = .ok (.invokevirtual 35, 3) := by decide +kernel
theorem dL_core_8 : decode cL_core 8 = .ok (.i2l, 1) := by decide +kernel
theorem dL_core_9 : decode cL_core 9 = .ok (.lastore, 1) := by decide +kernel
theorem dL_core_10 : decode cL_core 10 = .ok (.goto 11, 3) := by decide +kernel
theorem dL_core_13 : decode cL_core 13 = .ok (.astore 4, 2) := by decide +kernel
theorem dL_core_15 : decode cL_core 15 = .ok (.iconst 1, 1) := by decide +kernel
theorem dL_core_16 : decode cL_core 16 = .ok (.ireturn, 1) := by decide +kernel
theorem dL_core_17 : decode cL_core 17 = .ok (.astore 4, 2) := by decide +kernel
theorem dL_core_19 : decode cL_core 19 = .ok (.iconst 2, 1) := by decide +kernel
theorem dL_core_20 : decode cL_core 20 = .ok (.ireturn, 1) := by decide +kernel
theorem dL_core_21 : decode cL_core 21 = .ok (.iconst 0, 1) := by decide +kernel
theorem dL_core_22 : decode cL_core 22 = .ok (.ireturn, 1) := by decide +kernel
theorem dL_load_0 : decode cL_load 0 = .ok (.aload_n 3, 1) := by decide +kernel
theorem dL_load_1 : decode cL_load 1 = .ok (.iconst 0, 1) := by decide +kernel
theorem dL_load_2 : decode cL_load 2 = .ok (.aload_n 0, 1) := by decide +kernel
theorem dL_load_3 : decode cL_load 3 = .ok (.iload_n 1, 1) := by decide +kernel
theorem dL_load_4 : decode cL_load 4 = .ok (.iload_n 2, 1) := by decide +kernel
theorem dL_load_5 : decode cL_load 5 = .ok (.invokevirtual 38, 3) := by decide +kernel
theorem dL_load_8 : decode cL_load 8 = .ok (.i2l, 1) := by decide +kernel
theorem dL_load_9 : decode cL_load 9 = .ok (.lastore, 1) := by decide +kernel
theorem dL_load_10 : decode cL_load 10 = .ok (.goto 11, 3) := by decide +kernel
theorem dL_load_13 : decode cL_load 13 = .ok (.astore 4, 2) := by decide +kernel
theorem dL_load_15 : decode cL_load 15 = .ok (.iconst 1, 1) := by decide +kernel
theorem dL_load_16 : decode cL_load 16 = .ok (.ireturn, 1) := by decide +kernel
theorem dL_load_17 : decode cL_load 17 = .ok (.astore 4, 2) := by decide +kernel
theorem dL_load_19 : decode cL_load 19 = .ok (.iconst 2, 1) := by decide +kernel
theorem dL_load_20 : decode cL_load 20 = .ok (.ireturn, 1) := by decide +kernel
theorem dL_load_21 : decode cL_load 21 = .ok (.iconst 0, 1) := by decide +kernel
theorem dL_load_22 : decode cL_load 22 = .ok (.ireturn, 1) := by decide +kernel
theorem dL_base_0 : decode cL_base 0 = .ok (.aload_n 2, 1) := by decide +kernel
theorem dL_base_1 : decode cL_base 1 = .ok (.iconst 0, 1) := by decide +kernel
theorem dL_base_2 : decode cL_base 2 = .ok (.aload_n 0, 1) := by decide +kernel
theorem dL_base_3 : decode cL_base 3 = .ok (.iload_n 1, 1) := by decide +kernel
theorem dL_base_4 : decode cL_base 4 = .ok (.invokevirtual 41, 3) := by decide +kernel
theorem dL_base_7 : decode cL_base 7 = .ok (.lastore, 1) := by decide +kernel
theorem dL_base_8 : decode cL_base 8 = .ok (.goto 6, 3) := by decide +kernel
theorem dL_base_11 : decode cL_base 11 = .ok (.astore_n 3, 1) := by decide +kernel
theorem dL_base_12 : decode cL_base 12 = .ok (.iconst 1, 1) := by decide +kernel
theorem dL_base_13 : decode cL_base 13 = .ok (.ireturn, 1) := by decide +kernel
theorem dL_base_14 : decode cL_base 14 = .ok (.iconst 0, 1) := by decide +kernel
theorem dL_base_15 : decode cL_base 15 = .ok (.ireturn, 1) := by decide +kernel
theorem dL_baseOf_0 : decode cL_baseOf 0 = .ok (.aload_n 3, 1) := by decide +kernel
theorem dL_baseOf_1 : decode cL_baseOf 1 = .ok (.iconst 0, 1) := by decide +kernel
theorem dL_baseOf_2 : decode cL_baseOf 2 = .ok (.aload_n 0, 1) := by decide +kernel
theorem dL_baseOf_3 : decode cL_baseOf 3 = .ok (.iload_n 1, 1) := by decide +kernel
theorem dL_baseOf_4 : decode cL_baseOf 4 = .ok (.iload_n 2, 1) := by decide +kernel
theorem dL_baseOf_5 : decode cL_baseOf 5 = .ok (.invokevirtual 44, 3) := by decide +kernel
theorem dL_baseOf_8 : decode cL_baseOf 8 = .ok (.lastore, 1) := by decide +kernel
theorem dL_baseOf_9 : decode cL_baseOf 9 = .ok (.goto 7, 3) := by decide +kernel
theorem dL_baseOf_12 : decode cL_baseOf 12 = .ok (.astore 4, 2) := by decide +kernel
theorem dL_baseOf_14 : decode cL_baseOf 14 = .ok (.iconst 1, 1) := by decide +kernel
theorem dL_baseOf_15 : decode cL_baseOf 15 = .ok (.ireturn, 1) := by decide +kernel
theorem dL_baseOf_16 : decode cL_baseOf 16 = .ok (.iconst 0, 1) := by decide +kernel
theorem dL_baseOf_17 : decode cL_baseOf 17 = .ok (.ireturn, 1) := by decide +kernel
theorem dL_heaviest_0 : decode cL_heaviest 0 = .ok (.aload_n 2, 1) := by decide +kernel
theorem dL_heaviest_1 : decode cL_heaviest 1 = .ok (.iconst 0, 1) := by decide +kernel
theorem dL_heaviest_2 : decode cL_heaviest 2 = .ok (.aload_n 0, 1) := by decide +kernel
theorem dL_heaviest_3 : decode cL_heaviest 3 = .ok (.iload_n 1, 1) := by decide +kernel
theorem dL_heaviest_4 : decode cL_heaviest 4 = .ok (.invokevirtual 48, 3) := by decide +kernel
theorem dL_heaviest_7 : decode cL_heaviest 7 = .ok (.i2l, 1) := by decide +kernel
theorem dL_heaviest_8 : decode cL_heaviest 8 = .ok (.lastore, 1) := by decide +kernel
theorem dL_heaviest_9 : decode cL_heaviest 9 = .ok (.goto 6, 3) := by decide +kernel
theorem dL_heaviest_12 : decode cL_heaviest 12 = .ok (.astore_n 3, 1) := by decide +kernel
theorem dL_heaviest_13 : decode cL_heaviest 13 = .ok (.iconst 1, 1) := by decide +kernel
theorem dL_heaviest_14 : decode cL_heaviest 14 = .ok (.ireturn, 1) := by decide +kernel
theorem dL_heaviest_15 : decode cL_heaviest 15 = .ok (.iconst 0, 1) := by decide +kernel
theorem dL_heaviest_16 : decode cL_heaviest 16 = .ok (.ireturn, 1) := by decide +kernel
theorem dL_units_0 : decode cL_units 0 = .ok (.aload_n 2, 1) := by decide +kernel
theorem dL_units_1 : decode cL_units 1 = .ok (.iconst 0, 1) := by decide +kernel
theorem dL_units_2 : decode cL_units 2 = .ok (.aload_n 0, 1) := by decide +kernel
theorem dL_units_3 : decode cL_units 3 = .ok (.iload_n 1, 1) := by decide +kernel
theorem dL_units_4 : decode cL_units 4 = .ok (.invokevirtual 51, 3) := by decide +kernel
theorem dL_units_7 : decode cL_units 7 = .ok (.lastore, 1) := by decide +kernel
theorem dL_units_8 : decode cL_units 8 = .ok (.goto 6, 3) := by decide +kernel
theorem dL_units_11 : decode cL_units 11 = .ok (.astore_n 3, 1) := by decide +kernel
theorem dL_units_12 : decode cL_units 12 = .ok (.iconst 1, 1) := by decide +kernel
theorem dL_units_13 : decode cL_units 13 = .ok (.ireturn, 1) := by decide +kernel
theorem dL_units_14 : decode cL_units 14 = .ok (.iconst 0, 1) := by decide +kernel
theorem dL_units_15 : decode cL_units 15 = .ok (.ireturn, 1) := by decide +kernel
theorem dL_failsBy_0 : decode cL_failsBy 0 = .ok (.aload_n 2, 1) := by decide +kernel
theorem dL_failsBy_1 : decode cL_failsBy 1 = .ok (.iconst 0, 1) := by decide +kernel
theorem dL_failsBy_2 : decode cL_failsBy 2 = .ok (.aload_n 0, 1) := by decide +kernel
theorem dL_failsBy_3 : decode cL_failsBy 3 = .ok (.iload_n 1, 1) := by decide +kernel
theorem dL_failsBy_4 : decode cL_failsBy 4 = .ok (.invokevirtual 54, 3) := by decide +kernel
theorem dL_failsBy_7 : decode cL_failsBy 7 = .ok (.i2l, 1) := by decide +kernel
theorem dL_failsBy_8 : decode cL_failsBy 8 = .ok (.lastore, 1) := by decide +kernel
theorem dL_failsBy_9 : decode cL_failsBy 9 = .ok (.goto 6, 3) := by decide +kernel
theorem dL_failsBy_12 : decode cL_failsBy 12 = .ok (.astore_n 3, 1) := by decide +kernel
theorem dL_failsBy_13 : decode cL_failsBy 13 = .ok (.iconst 1, 1) := by decide +kernel
theorem dL_failsBy_14 : decode cL_failsBy 14 = .ok (.ireturn, 1) := by decide +kernel
theorem dL_failsBy_15 : decode cL_failsBy 15 = .ok (.iconst 0, 1) := by decide +kernel
theorem dL_failsBy_16 : decode cL_failsBy 16 = .ok (.ireturn, 1) := by decide +kernel
theorem dL_yearsLeft_0 : decode cL_yearsLeft 0 = .ok (.aload_n 2, 1) := by decide +kernel
theorem dL_yearsLeft_1 : decode cL_yearsLeft 1 = .ok (.iconst 0, 1) := by decide +kernel
theorem dL_yearsLeft_2 : decode cL_yearsLeft 2 = .ok (.aload_n 0, 1) := by decide +kernel
theorem dL_yearsLeft_3 : decode cL_yearsLeft 3 = .ok (.iload_n 1, 1) := by decide +kernel
theorem dL_yearsLeft_4 : decode cL_yearsLeft 4 = .ok (.invokevirtual 57, 3) := by decide +kernel
theorem dL_yearsLeft_7 : decode cL_yearsLeft 7 = .ok (.i2l, 1) := by decide +kernel
theorem dL_yearsLeft_8 : decode cL_yearsLeft 8 = .ok (.lastore, 1) := by decide +kernel
theorem dL_yearsLeft_9 : decode cL_yearsLeft 9 = .ok (.goto 6, 3) := by decide +kernel
theorem dL_yearsLeft_12 : decode cL_yearsLeft 12 = .ok (.astore_n 3, 1) := by decide +kernel
theorem dL_yearsLeft_13 : decode cL_yearsLeft 13 = .ok (.iconst 1, 1) := by decide +kernel
theorem dL_yearsLeft_14 : decode cL_yearsLeft 14 = .ok (.ireturn, 1) := by decide +kernel
theorem dL_yearsLeft_15 : decode cL_yearsLeft 15 = .ok (.iconst 0, 1) := by decide +kernel
theorem dL_yearsLeft_16 : decode cL_yearsLeft 16 = .ok (.ireturn, 1) := by decide +kernel
theorem dL_nthCell_0 : decode cL_nthCell 0 = .ok (.aload_n 2, 1) := by decide +kernel
theorem dL_nthCell_1 : decode cL_nthCell 1 = .ok (.iconst 0, 1) := by decide +kernel
theorem dL_nthCell_2 : decode cL_nthCell 2 = .ok (.aload_n 0, 1) := by decide +kernel
theorem dL_nthCell_3 : decode cL_nthCell 3 = .ok (.iload_n 1, 1) := by decide +kernel
theorem dL_nthCell_4 : decode cL_nthCell 4 = .ok (.invokevirtual 60, 3) := by decide +kernel
theorem dL_nthCell_7 : decode cL_nthCell 7 = .ok (.i2l, 1) := by decide +kernel
theorem dL_nthCell_8 : decode cL_nthCell 8 = .ok (.lastore, 1) := by decide +kernel
theorem dL_nthCell_9 : decode cL_nthCell 9 = .ok (.goto 6, 3) := by decide +kernel
theorem dL_nthCell_12 : decode cL_nthCell 12 = .ok (.astore_n 3, 1) := by decide +kernel
theorem dL_nthCell_13 : decode cL_nthCell 13 = .ok (.iconst 1, 1) := by decide +kernel
theorem dL_nthCell_14 : decode cL_nthCell 14 = .ok (.ireturn, 1) := by decide +kernel
theorem dL_nthCell_15 : decode cL_nthCell 15 = .ok (.iconst 0, 1) := by decide +kernel
theorem dL_nthCell_16 : decode cL_nthCell 16 = .ok (.ireturn, 1) := by decide +kernel
theorem dL_laneYears_0 : decode cL_laneYears 0 = .ok (.aload_n 2, 1) := by decide +kernel
theorem dL_laneYears_1 : decode cL_laneYears 1 = .ok (.iconst 0, 1) := by decide +kernel
theorem dL_laneYears_2 : decode cL_laneYears 2 = .ok (.aload_n 0, 1) := by decide +kernel
theorem dL_laneYears_3 : decode cL_laneYears 3 = .ok (.iload_n 1, 1) := by decide +kernel
theorem dL_laneYears_4 : decode cL_laneYears 4 = .ok (.invokevirtual 63, 3) := by decide +kernel
theorem dL_laneYears_7 : decode cL_laneYears 7 = .ok (.i2l, 1) := by decide +kernel
theorem dL_laneYears_8 : decode cL_laneYears 8 = .ok (.lastore, 1) := by decide +kernel
theorem dL_laneYears_9 : decode cL_laneYears 9 = .ok (.goto 6, 3) := by decide +kernel
theorem dL_laneYears_12 : decode cL_laneYears 12 = .ok (.astore_n 3, 1) := by decide +kernel
theorem dL_laneYears_13 : decode cL_laneYears 13 = .ok (.iconst 1, 1) := by decide +kernel
theorem dL_laneYears_14 : decode cL_laneYears 14 = .ok (.ireturn, 1) := by decide +kernel
theorem dL_laneYears_15 : decode cL_laneYears 15 = .ok (.iconst 0, 1) := by decide +kernel
theorem dL_laneYears_16 : decode cL_laneYears 16 = .ok (.ireturn, 1) := by decide +kernel
theorem dL_firstFailing_0 : decode cL_firstFailing 0 = .ok (.aload_n 2, 1) := by decide +kernel
theorem dL_firstFailing_1 : decode cL_firstFailing 1 = .ok (.iconst 0, 1) := by decide +kernel
theorem dL_firstFailing_2 : decode cL_firstFailing 2 = .ok (.aload_n 0, 1) := by decide +kernel
theorem dL_firstFailing_3 : decode cL_firstFailing 3 = .ok (.iload_n 1, 1) := by decide +kernel
theorem dL_firstFailing_4 : decode cL_firstFailing 4 = .ok (.invokevirtual 66, 3) := by decide +kernel
theorem dL_firstFailing_7 : decode cL_firstFailing 7 = .ok (.i2l, 1) := by decide +kernel
theorem dL_firstFailing_8 : decode cL_firstFailing 8 = .ok (.lastore, 1) := by decide +kernel
theorem dL_firstFailing_9 : decode cL_firstFailing 9 = .ok (.goto 6, 3) := by decide +kernel
theorem dL_firstFailing_12 : decode cL_firstFailing 12 = .ok (.astore_n 3, 1) := by decide +kernel
theorem dL_firstFailing_13 : decode cL_firstFailing 13 = .ok (.iconst 1, 1) := by decide +kernel
theorem dL_firstFailing_14 : decode cL_firstFailing 14 = .ok (.ireturn, 1) := by decide +kernel
theorem dL_firstFailing_15 : decode cL_firstFailing 15 = .ok (.iconst 0, 1) := by decide +kernel
theorem dL_firstFailing_16 : decode cL_firstFailing 16 = .ok (.ireturn, 1) := by decide +kernel
theorem dL_failing_0 : decode cL_failing 0 = .ok (.aload_n 2, 1) := by decide +kernel
theorem dL_failing_1 : decode cL_failing 1 = .ok (.iconst 0, 1) := by decide +kernel
theorem dL_failing_2 : decode cL_failing 2 = .ok (.aload_n 0, 1) := by decide +kernel
theorem dL_failing_3 : decode cL_failing 3 = .ok (.iload_n 1, 1) := by decide +kernel
theorem dL_failing_4 : decode cL_failing 4 = .ok (.invokevirtual 69, 3) := by decide +kernel
theorem dL_failing_7 : decode cL_failing 7 = .ok (.i2l, 1) := by decide +kernel
theorem dL_failing_8 : decode cL_failing 8 = .ok (.lastore, 1) := by decide +kernel
theorem dL_failing_9 : decode cL_failing 9 = .ok (.goto 6, 3) := by decide +kernel
theorem dL_failing_12 : decode cL_failing 12 = .ok (.astore_n 3, 1) := by decide +kernel
theorem dL_failing_13 : decode cL_failing 13 = .ok (.iconst 1, 1) := by decide +kernel
theorem dL_failing_14 : decode cL_failing 14 = .ok (.ireturn, 1) := by decide +kernel
theorem dL_failing_15 : decode cL_failing 15 = .ok (.iconst 0, 1) := by decide +kernel
theorem dL_failing_16 : decode cL_failing 16 = .ok (.ireturn, 1) := by decide +kernel
theorem dL_rutIn_0 : decode cL_rutIn 0 = .ok (.aload_n 3, 1) := by decide +kernel
theorem dL_rutIn_1 : decode cL_rutIn 1 = .ok (.iconst 0, 1) := by decide +kernel
theorem dL_rutIn_2 : decode cL_rutIn 2 = .ok (.aload_n 0, 1) := by decide +kernel
theorem dL_rutIn_3 : decode cL_rutIn 3 = .ok (.iload_n 1, 1) := by decide +kernel
theorem dL_rutIn_4 : decode cL_rutIn 4 = .ok (.iload_n 2, 1) := by decide +kernel
theorem dL_rutIn_5 : decode cL_rutIn 5 = .ok (.invokevirtual 72, 3) := by decide +kernel
theorem dL_rutIn_8 : decode cL_rutIn 8 = .ok (.i2l, 1) := by decide +kernel
theorem dL_rutIn_9 : decode cL_rutIn 9 = .ok (.lastore, 1) := by decide +kernel
theorem dL_rutIn_10 : decode cL_rutIn 10 = .ok (.goto 11, 3) := by decide +kernel
theorem dL_rutIn_13 : decode cL_rutIn 13 = .ok (.astore 4, 2) := by decide +kernel
theorem dL_rutIn_15 : decode cL_rutIn 15 = .ok (.iconst 1, 1) := by decide +kernel
theorem dL_rutIn_16 : decode cL_rutIn 16 = .ok (.ireturn, 1) := by decide +kernel
theorem dL_rutIn_17 : decode cL_rutIn 17 = .ok (.astore 4, 2) := by decide +kernel
theorem dL_rutIn_19 : decode cL_rutIn 19 = .ok (.iconst 2, 1) := by decide +kernel
theorem dL_rutIn_20 : decode cL_rutIn 20 = .ok (.ireturn, 1) := by decide +kernel
theorem dL_rutIn_21 : decode cL_rutIn 21 = .ok (.iconst 0, 1) := by decide +kernel
theorem dL_rutIn_22 : decode cL_rutIn 22 = .ok (.ireturn, 1) := by decide +kernel
theorem dL_wornIn_0 : decode cL_wornIn 0 = .ok (.aload_n 3, 1) := by decide +kernel
theorem dL_wornIn_1 : decode cL_wornIn 1 = .ok (.iconst 0, 1) := by decide +kernel
theorem dL_wornIn_2 : decode cL_wornIn 2 = .ok (.aload_n 0, 1) := by decide +kernel
theorem dL_wornIn_3 : decode cL_wornIn 3 = .ok (.iload_n 1, 1) := by decide +kernel
theorem dL_wornIn_4 : decode cL_wornIn 4 = .ok (.iload_n 2, 1) := by decide +kernel
theorem dL_wornIn_5 : decode cL_wornIn 5 = .ok (.invokevirtual 75, 3) := by decide +kernel
theorem dL_wornIn_8 : decode cL_wornIn 8 = .ok (.lastore, 1) := by decide +kernel
theorem dL_wornIn_9 : decode cL_wornIn 9 = .ok (.goto 11, 3) := by decide +kernel
theorem dL_wornIn_12 : decode cL_wornIn 12 = .ok (.astore 4, 2) := by decide +kernel
theorem dL_wornIn_14 : decode cL_wornIn 14 = .ok (.iconst 1, 1) := by decide +kernel
theorem dL_wornIn_15 : decode cL_wornIn 15 = .ok (.ireturn, 1) := by decide +kernel
theorem dL_wornIn_16 : decode cL_wornIn 16 = .ok (.astore 4, 2) := by decide +kernel
theorem dL_wornIn_18 : decode cL_wornIn 18 = .ok (.iconst 2, 1) := by decide +kernel
theorem dL_wornIn_19 : decode cL_wornIn 19 = .ok (.ireturn, 1) := by decide +kernel
theorem dL_wornIn_20 : decode cL_wornIn 20 = .ok (.iconst 0, 1) := by decide +kernel
theorem dL_wornIn_21 : decode cL_wornIn 21 = .ok (.ireturn, 1) := by decide +kernel
theorem dL_countIn_0 : decode cL_countIn 0 = .ok (.aload_n 3, 1) := by decide +kernel
theorem dL_countIn_1 : decode cL_countIn 1 = .ok (.iconst 0, 1) := by decide +kernel
theorem dL_countIn_2 : decode cL_countIn 2 = .ok (.aload_n 0, 1) := by decide +kernel
theorem dL_countIn_3 : decode cL_countIn 3 = .ok (.iload_n 1, 1) := by decide +kernel
theorem dL_countIn_4 : decode cL_countIn 4 = .ok (.iload_n 2, 1) := by decide +kernel
theorem dL_countIn_5 : decode cL_countIn 5 = .ok (.invokevirtual 78, 3) := by decide +kernel
theorem dL_countIn_8 : decode cL_countIn 8 = .ok (.i2l, 1) := by decide +kernel
theorem dL_countIn_9 : decode cL_countIn 9 = .ok (.lastore, 1) := by decide +kernel
theorem dL_countIn_10 : decode cL_countIn 10 = .ok (.goto 11, 3) := by decide +kernel
theorem dL_countIn_13 : decode cL_countIn 13 = .ok (.astore 4, 2) := by decide +kernel
theorem dL_countIn_15 : decode cL_countIn 15 = .ok (.iconst 1, 1) := by decide +kernel
theorem dL_countIn_16 : decode cL_countIn 16 = .ok (.ireturn, 1) := by decide +kernel
theorem dL_countIn_17 : decode cL_countIn 17 = .ok (.astore 4, 2) := by decide +kernel
theorem dL_countIn_19 : decode cL_countIn 19 = .ok (.iconst 2, 1) := by decide +kernel
theorem dL_countIn_20 : decode cL_countIn 20 = .ok (.ireturn, 1) := by decide +kernel
theorem dL_countIn_21 : decode cL_countIn 21 = .ok (.iconst 0, 1) := by decide +kernel
theorem dL_countIn_22 : decode cL_countIn 22 = .ok (.ireturn, 1) := by decide +kernel
theorem dL_yearsWith_0 : decode cL_yearsWith 0 = .ok (.aload_n 3, 1) := by decide +kernel
theorem dL_yearsWith_1 : decode cL_yearsWith 1 = .ok (.iconst 0, 1) := by decide +kernel
theorem dL_yearsWith_2 : decode cL_yearsWith 2 = .ok (.aload_n 0, 1) := by decide +kernel
theorem dL_yearsWith_3 : decode cL_yearsWith 3 = .ok (.iload_n 1, 1) := by decide +kernel
theorem dL_yearsWith_4 : decode cL_yearsWith 4 = .ok (.iload_n 2, 1) := by decide +kernel
theorem dL_yearsWith_5 : decode cL_yearsWith 5 = .ok (.invokevirtual 81, 3) := by decide +kernel
theorem dL_yearsWith_8 : decode cL_yearsWith 8 = .ok (.i2l, 1) := by decide +kernel
theorem dL_yearsWith_9 : decode cL_yearsWith 9 = .ok (.lastore, 1) := by decide +kernel
theorem dL_yearsWith_10 : decode cL_yearsWith 10 = .ok (.goto 11, 3) := by decide +kernel
theorem dL_yearsWith_13 : decode cL_yearsWith 13 = .ok (.astore 4, 2) := by decide +kernel
theorem dL_yearsWith_15 : decode cL_yearsWith 15 = .ok (.iconst 1, 1) := by decide +kernel
theorem dL_yearsWith_16 : decode cL_yearsWith 16 = .ok (.ireturn, 1) := by decide +kernel
theorem dL_yearsWith_17 : decode cL_yearsWith 17 = .ok (.astore 4, 2) := by decide +kernel
theorem dL_yearsWith_19 : decode cL_yearsWith 19 = .ok (.iconst 2, 1) := by decide +kernel
theorem dL_yearsWith_20 : decode cL_yearsWith 20 = .ok (.ireturn, 1) := by decide +kernel
theorem dL_yearsWith_21 : decode cL_yearsWith 21 = .ok (.iconst 0, 1) := by decide +kernel
theorem dL_yearsWith_22 : decode cL_yearsWith 22 = .ok (.ireturn, 1) := by decide +kernel
theorem dL_yearsIfClosed_0 : decode cL_yearsIfClosed 0 = .ok (.aload_n 3, 1) := by decide +kernel
theorem dL_yearsIfClosed_1 : decode cL_yearsIfClosed 1 = .ok (.iconst 0, 1) := by decide +kernel
theorem dL_yearsIfClosed_2 : decode cL_yearsIfClosed 2 = .ok (.aload_n 0, 1) := by decide +kernel
theorem dL_yearsIfClosed_3 : decode cL_yearsIfClosed 3 = .ok (.iload_n 1, 1) := by decide +kernel
theorem dL_yearsIfClosed_4 : decode cL_yearsIfClosed 4 = .ok (.iload_n 2, 1) := by decide +kernel
theorem dL_yearsIfClosed_5 : decode cL_yearsIfClosed 5 = .ok (.invokevirtual 84, 3) := by decide +kernel
theorem dL_yearsIfClosed_8 : decode cL_yearsIfClosed 8 = .ok (.i2l, 1) := by decide +kernel
theorem dL_yearsIfClosed_9 : decode cL_yearsIfClosed 9 = .ok (.lastore, 1) := by decide +kernel
theorem dL_yearsIfClosed_10 : decode cL_yearsIfClosed 10 = .ok (.goto 7, 3) := by decide +kernel
theorem dL_yearsIfClosed_13 : decode cL_yearsIfClosed 13 = .ok (.astore 4, 2) := by decide +kernel
theorem dL_yearsIfClosed_15 : decode cL_yearsIfClosed 15 = .ok (.iconst 1, 1) := by decide +kernel
theorem dL_yearsIfClosed_16 : decode cL_yearsIfClosed 16 = .ok (.ireturn, 1) := by decide +kernel
theorem dL_yearsIfClosed_17 : decode cL_yearsIfClosed 17 = .ok (.iconst 0, 1) := by decide +kernel
theorem dL_yearsIfClosed_18 : decode cL_yearsIfClosed 18 = .ok (.ireturn, 1) := by decide +kernel
theorem dL_weakest_0 : decode cL_weakest 0 = .ok (.aload_n 1, 1) := by decide +kernel
theorem dL_weakest_1 : decode cL_weakest 1 = .ok (.iconst 0, 1) := by decide +kernel
theorem dL_weakest_2 : decode cL_weakest 2 = .ok (.aload_n 0, 1) := by decide +kernel
theorem dL_weakest_3 : decode cL_weakest 3 = .ok (.invokevirtual 87, 3) := by decide +kernel
theorem dL_weakest_6 : decode cL_weakest 6 = .ok (.i2l, 1) := by decide +kernel
theorem dL_weakest_7 : decode cL_weakest 7 = .ok (.lastore, 1) := by decide +kernel
theorem dL_weakest_8 : decode cL_weakest 8 = .ok (.goto 6, 3) := by decide +kernel
theorem dL_weakest_11 : decode cL_weakest 11 = .ok (.astore_n 2, 1) := by decide +kernel
theorem dL_weakest_12 : decode cL_weakest 12 = .ok (.iconst 1, 1) := by decide +kernel
theorem dL_weakest_13 : decode cL_weakest 13 = .ok (.ireturn, 1) := by decide +kernel
theorem dL_weakest_14 : decode cL_weakest 14 = .ok (.iconst 0, 1) := by decide +kernel
theorem dL_weakest_15 : decode cL_weakest 15 = .ok (.ireturn, 1) := by decide +kernel
theorem dL_discardTells_0 : decode cL_discardTells 0 = .ok (.aload_n 2, 1) := by decide +kernel
theorem dL_discardTells_1 : decode cL_discardTells 1 = .ok (.iconst 0, 1) := by decide +kernel
theorem dL_discardTells_2 : decode cL_discardTells 2 = .ok (.aload_n 0, 1) := by decide +kernel
theorem dL_discardTells_3 : decode cL_discardTells 3 = .ok (.iload_n 1, 1) := by decide +kernel
theorem dL_discardTells_4 : decode cL_discardTells 4 = .ok (.invokevirtual 93, 3) := by decide +kernel
theorem dL_discardTells_7 : decode cL_discardTells 7 = .ok (.i2l, 1) := by decide +kernel
theorem dL_discardTells_8 : decode cL_discardTells 8 = .ok (.lastore, 1) := by decide +kernel
theorem dL_discardTells_9 : decode cL_discardTells 9 = .ok (.goto 6, 3) := by decide +kernel
theorem dL_discardTells_12 : decode cL_discardTells 12 = .ok (.astore_n 3, 1) := by decide +kernel
theorem dL_discardTells_13 : decode cL_discardTells 13 = .ok (.iconst 1, 1) := by decide +kernel
theorem dL_discardTells_14 : decode cL_discardTells 14 = .ok (.ireturn, 1) := by decide +kernel
theorem dL_discardTells_15 : decode cL_discardTells 15 = .ok (.iconst 0, 1) := by decide +kernel
theorem dL_discardTells_16 : decode cL_discardTells 16 = .ok (.ireturn, 1) := by decide +kernel
theorem dL_cost_0 : decode cL_cost 0 = .ok (.aload 4, 2) := by decide +kernel
theorem dL_cost_2 : decode cL_cost 2 = .ok (.iconst 0, 1) := by decide +kernel
theorem dL_cost_3 : decode cL_cost 3 = .ok (.aload_n 0, 1) := by decide +kernel
theorem dL_cost_4 : decode cL_cost 4 = .ok (.iload_n 1, 1) := by decide +kernel
theorem dL_cost_5 : decode cL_cost 5 = .ok (.iload_n 2, 1) := by decide +kernel
theorem dL_cost_6 : decode cL_cost 6 = .ok (.iload_n 3, 1) := by decide +kernel
theorem dL_cost_7 : decode cL_cost 7 = .ok (.invokevirtual 96, 3) := by decide +kernel
theorem dL_cost_10 : decode cL_cost 10 = .ok (.i2l, 1) := by decide +kernel
theorem dL_cost_11 : decode cL_cost 11 = .ok (.lastore, 1) := by decide +kernel
theorem dL_cost_12 : decode cL_cost 12 = .ok (.goto 11, 3) := by decide +kernel
theorem dL_cost_15 : decode cL_cost 15 = .ok (.astore 5, 2) := by decide +kernel
theorem dL_cost_17 : decode cL_cost 17 = .ok (.iconst 1, 1) := by decide +kernel
theorem dL_cost_18 : decode cL_cost 18 = .ok (.ireturn, 1) := by decide +kernel
theorem dL_cost_19 : decode cL_cost 19 = .ok (.astore 5, 2) := by decide +kernel
theorem dL_cost_21 : decode cL_cost 21 = .ok (.iconst 2, 1) := by decide +kernel
theorem dL_cost_22 : decode cL_cost 22 = .ok (.ireturn, 1) := by decide +kernel
theorem dL_cost_23 : decode cL_cost 23 = .ok (.iconst 0, 1) := by decide +kernel
theorem dL_cost_24 : decode cL_cost 24 = .ok (.ireturn, 1) := by decide +kernel
theorem dL_whyNot_0 : decode cL_whyNot 0 = .ok (.aload 4, 2) := by decide +kernel
theorem dL_whyNot_2 : decode cL_whyNot 2 = .ok (.iconst 0, 1) := by decide +kernel
theorem dL_whyNot_3 : decode cL_whyNot 3 = .ok (.aload_n 0, 1) := by decide +kernel
theorem dL_whyNot_4 : decode cL_whyNot 4 = .ok (.iload_n 1, 1) := by decide +kernel
theorem dL_whyNot_5 : decode cL_whyNot 5 = .ok (.iload_n 2, 1) := by decide +kernel
theorem dL_whyNot_6 : decode cL_whyNot 6 = .ok (.iload_n 3, 1) := by decide +kernel
theorem dL_whyNot_7 : decode cL_whyNot 7 = .ok (.invokevirtual 99, 3) := by decide +kernel
theorem dL_whyNot_10 : decode cL_whyNot 10 = .ok (.i2l, 1) := by decide +kernel
theorem dL_whyNot_11 : decode cL_whyNot 11 = .ok (.lastore, 1) := by decide +kernel
theorem dL_whyNot_12 : decode cL_whyNot 12 = .ok (.goto 11, 3) := by decide +kernel
theorem dL_whyNot_15 : decode cL_whyNot 15 = .ok (.astore 5, 2) := by decide +kernel
theorem dL_whyNot_17 : decode cL_whyNot 17 = .ok (.iconst 1, 1) := by decide +kernel
theorem dL_whyNot_18 : decode cL_whyNot 18 = .ok (.ireturn, 1) := by decide +kernel
theorem dL_whyNot_19 : decode cL_whyNot 19 = .ok (.astore 5, 2) := by decide +kernel
theorem dL_whyNot_21 : decode cL_whyNot 21 = .ok (.iconst 2, 1) := by decide +kernel
theorem dL_whyNot_22 : decode cL_whyNot 22 = .ok (.ireturn, 1) := by decide +kernel
theorem dL_whyNot_23 : decode cL_whyNot 23 = .ok (.iconst 0, 1) := by decide +kernel
theorem dL_whyNot_24 : decode cL_whyNot 24 = .ok (.ireturn, 1) := by decide +kernel
theorem dL_yearsBehind_0 : decode cL_yearsBehind 0 = .ok (.aload 4, 2) := by decide +kernel
theorem dL_yearsBehind_2 : decode cL_yearsBehind 2 = .ok (.iconst 0, 1) := by decide +kernel
theorem dL_yearsBehind_3 : decode cL_yearsBehind 3 = .ok (.aload_n 0, 1) := by decide +kernel
theorem dL_yearsBehind_4 : decode cL_yearsBehind 4 = .ok (.iload_n 1, 1) := by decide +kernel
theorem dL_yearsBehind_5 : decode cL_yearsBehind 5 = .ok (.iload_n 2, 1) := by decide +kernel
theorem dL_yearsBehind_6 : decode cL_yearsBehind 6 = .ok (.iload_n 3, 1) := by decide +kernel
theorem dL_yearsBehind_7 : decode cL_yearsBehind 7 = .ok (.invokevirtual 102, 3) := by decide +kernel
theorem dL_yearsBehind_10 : decode cL_yearsBehind 10 = .ok (.i2l, 1) := by decide +kernel
theorem dL_yearsBehind_11 : decode cL_yearsBehind 11 = .ok (.lastore, 1) := by decide +kernel
theorem dL_yearsBehind_12 : decode cL_yearsBehind 12 = .ok (.goto 11, 3) := by decide +kernel
theorem dL_yearsBehind_15 : decode cL_yearsBehind 15 = .ok (.astore 5, 2) := by decide +kernel
theorem dL_yearsBehind_17 : decode cL_yearsBehind 17 = .ok (.iconst 1, 1) := by decide +kernel
theorem dL_yearsBehind_18 : decode cL_yearsBehind 18 = .ok (.ireturn, 1) := by decide +kernel
theorem dL_yearsBehind_19 : decode cL_yearsBehind 19 = .ok (.astore 5, 2) := by decide +kernel
theorem dL_yearsBehind_21 : decode cL_yearsBehind 21 = .ok (.iconst 2, 1) := by decide +kernel
theorem dL_yearsBehind_22 : decode cL_yearsBehind 22 = .ok (.ireturn, 1) := by decide +kernel
theorem dL_yearsBehind_23 : decode cL_yearsBehind 23 = .ok (.iconst 0, 1) := by decide +kernel
theorem dL_yearsBehind_24 : decode cL_yearsBehind 24 = .ok (.ireturn, 1) := by decide +kernel
theorem dL_cheapest_0 : decode cL_cheapest 0 = .ok (.aload_n 3, 1) := by decide +kernel
theorem dL_cheapest_1 : decode cL_cheapest 1 = .ok (.iconst 0, 1) := by decide +kernel
theorem dL_cheapest_2 : decode cL_cheapest 2 = .ok (.aload_n 0, 1) := by decide +kernel
theorem dL_cheapest_3 : decode cL_cheapest 3 = .ok (.iload_n 1, 1) := by decide +kernel
theorem dL_cheapest_4 : decode cL_cheapest 4 = .ok (.iload_n 2, 1) := by decide +kernel
theorem dL_cheapest_5 : decode cL_cheapest 5 = .ok (.invokevirtual 105, 3) := by decide +kernel
theorem dL_cheapest_8 : decode cL_cheapest 8 = .ok (.i2l, 1) := by decide +kernel
theorem dL_cheapest_9 : decode cL_cheapest 9 = .ok (.lastore, 1) := by decide +kernel
theorem dL_cheapest_10 : decode cL_cheapest 10 = .ok (.goto 11, 3) := by decide +kernel
theorem dL_cheapest_13 : decode cL_cheapest 13 = .ok (.astore 4, 2) := by decide +kernel
theorem dL_cheapest_15 : decode cL_cheapest 15 = .ok (.iconst 1, 1) := by decide +kernel
theorem dL_cheapest_16 : decode cL_cheapest 16 = .ok (.ireturn, 1) := by decide +kernel
theorem dL_cheapest_17 : decode cL_cheapest 17 = .ok (.astore 4, 2) := by decide +kernel
theorem dL_cheapest_19 : decode cL_cheapest 19 = .ok (.iconst 2, 1) := by decide +kernel
theorem dL_cheapest_20 : decode cL_cheapest 20 = .ok (.ireturn, 1) := by decide +kernel
theorem dL_cheapest_21 : decode cL_cheapest 21 = .ok (.iconst 0, 1) := by decide +kernel
theorem dL_cheapest_22 : decode cL_cheapest 22 = .ok (.ireturn, 1) := by decide +kernel
theorem dL_planCost_0 : decode cL_planCost 0 = .ok (.aload_n 2, 1) := by decide +kernel
theorem dL_planCost_1 : decode cL_planCost 1 = .ok (.iconst 0, 1) := by decide +kernel
theorem dL_planCost_2 : decode cL_planCost 2 = .ok (.aload_n 0, 1) := by decide +kernel
theorem dL_planCost_3 : decode cL_planCost 3 = .ok (.iload_n 1, 1) := by decide +kernel
theorem dL_planCost_4 : decode cL_planCost 4 = .ok (.invokevirtual 108, 3) := by decide +kernel
theorem dL_planCost_7 : decode cL_planCost 7 = .ok (.i2l, 1) := by decide +kernel
theorem dL_planCost_8 : decode cL_planCost 8 = .ok (.lastore, 1) := by decide +kernel
theorem dL_planCost_9 : decode cL_planCost 9 = .ok (.goto 6, 3) := by decide +kernel
theorem dL_planCost_12 : decode cL_planCost 12 = .ok (.astore_n 3, 1) := by decide +kernel
theorem dL_planCost_13 : decode cL_planCost 13 = .ok (.iconst 1, 1) := by decide +kernel
theorem dL_planCost_14 : decode cL_planCost 14 = .ok (.ireturn, 1) := by decide +kernel
theorem dL_planCost_15 : decode cL_planCost 15 = .ok (.iconst 0, 1) := by decide +kernel
theorem dL_planCost_16 : decode cL_planCost 16 = .ok (.ireturn, 1) := by decide +kernel
theorem dL_meanRut_0 : decode cL_meanRut 0 = .ok (.aload_n 2, 1) := by decide +kernel
theorem dL_meanRut_1 : decode cL_meanRut 1 = .ok (.iconst 0, 1) := by decide +kernel
theorem dL_meanRut_2 : decode cL_meanRut 2 = .ok (.aload_n 0, 1) := by decide +kernel
theorem dL_meanRut_3 : decode cL_meanRut 3 = .ok (.iload_n 1, 1) := by decide +kernel
theorem dL_meanRut_4 : decode cL_meanRut 4 = .ok (.invokevirtual 111, 3) := by decide +kernel
theorem dL_meanRut_7 : decode cL_meanRut 7 = .ok (.dastore, 1) := by decide +kernel
theorem dL_meanRut_8 : decode cL_meanRut 8 = .ok (.goto 6, 3) := by decide +kernel
theorem dL_meanRut_11 : decode cL_meanRut 11 = .ok (.astore_n 3, 1) := by decide +kernel
theorem dL_meanRut_12 : decode cL_meanRut 12 = .ok (.iconst 1, 1) := by decide +kernel
theorem dL_meanRut_13 : decode cL_meanRut 13 = .ok (.ireturn, 1) := by decide +kernel
theorem dL_meanRut_14 : decode cL_meanRut 14 = .ok (.iconst 0, 1) := by decide +kernel
theorem dL_meanRut_15 : decode cL_meanRut 15 = .ok (.ireturn, 1) := by decide +kernel
theorem dL_wornShare_0 : decode cL_wornShare 0 = .ok (.aload_n 2, 1) := by decide +kernel
theorem dL_wornShare_1 : decode cL_wornShare 1 = .ok (.iconst 0, 1) := by decide +kernel
theorem dL_wornShare_2 : decode cL_wornShare 2 = .ok (.aload_n 0, 1) := by decide +kernel
theorem dL_wornShare_3 : decode cL_wornShare 3 = .ok (.iload_n 1, 1) := by decide +kernel
theorem dL_wornShare_4 : decode cL_wornShare 4 = .ok (.invokevirtual 115, 3) := by decide +kernel
theorem dL_wornShare_7 : decode cL_wornShare 7 = .ok (.f2d, 1) := by decide +kernel
theorem dL_wornShare_8 : decode cL_wornShare 8 = .ok (.dastore, 1) := by decide +kernel
theorem dL_wornShare_9 : decode cL_wornShare 9 = .ok (.goto 6, 3) := by decide +kernel
theorem dL_wornShare_12 : decode cL_wornShare 12 = .ok (.astore_n 3, 1) := by decide +kernel
theorem dL_wornShare_13 : decode cL_wornShare 13 = .ok (.iconst 1, 1) := by decide +kernel
theorem dL_wornShare_14 : decode cL_wornShare 14 = .ok (.ireturn, 1) := by decide +kernel
theorem dL_wornShare_15 : decode cL_wornShare 15 = .ok (.iconst 0, 1) := by decide +kernel
theorem dL_wornShare_16 : decode cL_wornShare 16 = .ok (.ireturn, 1) := by decide +kernel
theorem dL_pass_0 : decode cL_pass 0 = .ok (.aload_n 2, 1) := by decide +kernel
theorem dL_pass_1 : decode cL_pass 1 = .ok (.iconst 0, 1) := by decide +kernel
theorem dL_pass_2 : decode cL_pass 2 = .ok (.aload_n 0, 1) := by decide +kernel
theorem dL_pass_3 : decode cL_pass 3 = .ok (.iload_n 1, 1) := by decide +kernel
theorem dL_pass_4 : decode cL_pass 4 = .ok (.invokevirtual 119, 3) := by decide +kernel
theorem dL_pass_7 : decode cL_pass 7 = .ok (.i2l, 1) := by decide +kernel
theorem dL_pass_8 : decode cL_pass 8 = .ok (.lastore, 1) := by decide +kernel
theorem dL_pass_9 : decode cL_pass 9 = .ok (.goto 9, 3) := by decide +kernel
theorem dL_pass_12 : decode cL_pass 12 = .ok (.astore_n 3, 1) := by decide +kernel
theorem dL_pass_13 : decode cL_pass 13 = .ok (.iconst 1, 1) := by decide +kernel
theorem dL_pass_14 : decode cL_pass 14 = .ok (.ireturn, 1) := by decide +kernel
theorem dL_pass_15 : decode cL_pass 15 = .ok (.astore_n 3, 1) := by decide +kernel
theorem dL_pass_16 : decode cL_pass 16 = .ok (.iconst 2, 1) := by decide +kernel
theorem dL_pass_17 : decode cL_pass 17 = .ok (.ireturn, 1) := by decide +kernel
theorem dL_pass_18 : decode cL_pass 18 = .ok (.iconst 0, 1) := by decide +kernel
theorem dL_pass_19 : decode cL_pass 19 = .ok (.ireturn, 1) := by decide +kernel
theorem dL_drill_0 : decode cL_drill 0 = .ok (.aload 4, 2) := by decide +kernel
theorem dL_drill_2 : decode cL_drill 2 = .ok (.iconst 0, 1) := by decide +kernel
theorem dL_drill_3 : decode cL_drill 3 = .ok (.aload_n 0, 1) := by decide +kernel
theorem dL_drill_4 : decode cL_drill 4 = .ok (.iload_n 1, 1) := by decide +kernel
theorem dL_drill_5 : decode cL_drill 5 = .ok (.iload_n 2, 1) := by decide +kernel
theorem dL_drill_6 : decode cL_drill 6 = .ok (.iload_n 3, 1) := by decide +kernel
theorem dL_drill_7 : decode cL_drill 7 = .ok (.invokevirtual 124, 3) := by decide +kernel
theorem dL_drill_10 : decode cL_drill 10 = .ok (.i2l, 1) := by decide +kernel
theorem dL_drill_11 : decode cL_drill 11 = .ok (.lastore, 1) := by decide +kernel
theorem dL_drill_12 : decode cL_drill 12 = .ok (.goto 15, 3) := by decide +kernel
theorem dL_drill_15 : decode cL_drill 15 = .ok (.astore 5, 2) := by decide +kernel
theorem dL_drill_17 : decode cL_drill 17 = .ok (.iconst 1, 1) := by decide +kernel
theorem dL_drill_18 : decode cL_drill 18 = .ok (.ireturn, 1) := by decide +kernel
theorem dL_drill_19 : decode cL_drill 19 = .ok (.astore 5, 2) := by decide +kernel
theorem dL_drill_21 : decode cL_drill 21 = .ok (.iconst 2, 1) := by decide +kernel
theorem dL_drill_22 : decode cL_drill 22 = .ok (.ireturn, 1) := by decide +kernel
theorem dL_drill_23 : decode cL_drill 23 = .ok (.astore 5, 2) := by decide +kernel
theorem dL_drill_25 : decode cL_drill 25 = .ok (.iconst 3, 1) := by decide +kernel
theorem dL_drill_26 : decode cL_drill 26 = .ok (.ireturn, 1) := by decide +kernel
theorem dL_drill_27 : decode cL_drill 27 = .ok (.iconst 0, 1) := by decide +kernel
theorem dL_drill_28 : decode cL_drill 28 = .ok (.ireturn, 1) := by decide +kernel
theorem dL_addLayer_0 : decode cL_addLayer 0 = .ok (.aload 4, 2) := by decide +kernel
theorem dL_addLayer_2 : decode cL_addLayer 2 = .ok (.iconst 0, 1) := by decide +kernel
theorem dL_addLayer_3 : decode cL_addLayer 3 = .ok (.aload_n 0, 1) := by decide +kernel
theorem dL_addLayer_4 : decode cL_addLayer 4 = .ok (.iload_n 1, 1) := by decide +kernel
theorem dL_addLayer_5 : decode cL_addLayer 5 = .ok (.iload_n 2, 1) := by decide +kernel
theorem dL_addLayer_6 : decode cL_addLayer 6 = .ok (.iload_n 3, 1) := by decide +kernel
theorem dL_addLayer_7 : decode cL_addLayer 7 = .ok (.invokevirtual 127, 3) := by decide +kernel
theorem dL_addLayer_10 : decode cL_addLayer 10 = .ok (.i2l, 1) := by decide +kernel
theorem dL_addLayer_11 : decode cL_addLayer 11 = .ok (.lastore, 1) := by decide +kernel
theorem dL_addLayer_12 : decode cL_addLayer 12 = .ok (.goto 15, 3) := by decide +kernel
theorem dL_addLayer_15 : decode cL_addLayer 15 = .ok (.astore 5, 2) := by decide +kernel
theorem dL_addLayer_17 : decode cL_addLayer 17 = .ok (.iconst 1, 1) := by decide +kernel
theorem dL_addLayer_18 : decode cL_addLayer 18 = .ok (.ireturn, 1) := by decide +kernel
theorem dL_addLayer_19 : decode cL_addLayer 19 = .ok (.astore 5, 2) := by decide +kernel
theorem dL_addLayer_21 : decode cL_addLayer 21 = .ok (.iconst 2, 1) := by decide +kernel
theorem dL_addLayer_22 : decode cL_addLayer 22 = .ok (.ireturn, 1) := by decide +kernel
theorem dL_addLayer_23 : decode cL_addLayer 23 = .ok (.astore 5, 2) := by decide +kernel
theorem dL_addLayer_25 : decode cL_addLayer 25 = .ok (.iconst 3, 1) := by decide +kernel
theorem dL_addLayer_26 : decode cL_addLayer 26 = .ok (.ireturn, 1) := by decide +kernel
theorem dL_addLayer_27 : decode cL_addLayer 27 = .ok (.iconst 0, 1) := by decide +kernel
theorem dL_addLayer_28 : decode cL_addLayer 28 = .ok (.ireturn, 1) := by decide +kernel
theorem dL_discard_0 : decode cL_discard 0 = .ok (.aload_n 2, 1) := by decide +kernel
theorem dL_discard_1 : decode cL_discard 1 = .ok (.iconst 0, 1) := by decide +kernel
theorem dL_discard_2 : decode cL_discard 2 = .ok (.aload_n 0, 1) := by decide +kernel
theorem dL_discard_3 : decode cL_discard 3 = .ok (.iload_n 1, 1) := by decide +kernel
theorem dL_discard_4 : decode cL_discard 4 = .ok (.invokevirtual 130, 3) := by decide +kernel
theorem dL_discard_7 : decode cL_discard 7 = .ok (.i2l, 1) := by decide +kernel
theorem dL_discard_8 : decode cL_discard 8 = .ok (.lastore, 1) := by decide +kernel
theorem dL_discard_9 : decode cL_discard 9 = .ok (.goto 6, 3) := by decide +kernel
theorem dL_discard_12 : decode cL_discard 12 = .ok (.astore_n 3, 1) := by decide +kernel
theorem dL_discard_13 : decode cL_discard 13 = .ok (.iconst 1, 1) := by decide +kernel
theorem dL_discard_14 : decode cL_discard 14 = .ok (.ireturn, 1) := by decide +kernel
theorem dL_discard_15 : decode cL_discard 15 = .ok (.iconst 0, 1) := by decide +kernel
theorem dL_discard_16 : decode cL_discard 16 = .ok (.ireturn, 1) := by decide +kernel
theorem dL_measure_0 : decode cL_measure 0 = .ok (.aload_n 3, 1) := by decide +kernel
theorem dL_measure_1 : decode cL_measure 1 = .ok (.iconst 0, 1) := by decide +kernel
theorem dL_measure_2 : decode cL_measure 2 = .ok (.aload_n 0, 1) := by decide +kernel
theorem dL_measure_3 : decode cL_measure 3 = .ok (.iload_n 1, 1) := by decide +kernel
theorem dL_measure_4 : decode cL_measure 4 = .ok (.iload_n 2, 1) := by decide +kernel
theorem dL_measure_5 : decode cL_measure 5 = .ok (.invokevirtual 133, 3) := by decide +kernel
theorem dL_measure_8 : decode cL_measure 8 = .ok (.i2l, 1) := by decide +kernel
theorem dL_measure_9 : decode cL_measure 9 = .ok (.lastore, 1) := by decide +kernel
theorem dL_measure_10 : decode cL_measure 10 = .ok (.goto 11, 3) := by decide +kernel
theorem dL_measure_13 : decode cL_measure 13 = .ok (.astore 4, 2) := by decide +kernel
theorem dL_measure_15 : decode cL_measure 15 = .ok (.iconst 1, 1) := by decide +kernel
theorem dL_measure_16 : decode cL_measure 16 = .ok (.ireturn, 1) := by decide +kernel
theorem dL_measure_17 : decode cL_measure 17 = .ok (.astore 4, 2) := by decide +kernel
theorem dL_measure_19 : decode cL_measure 19 = .ok (.iconst 2, 1) := by decide +kernel
theorem dL_measure_20 : decode cL_measure 20 = .ok (.ireturn, 1) := by decide +kernel
theorem dL_measure_21 : decode cL_measure 21 = .ok (.iconst 0, 1) := by decide +kernel
theorem dL_measure_22 : decode cL_measure 22 = .ok (.ireturn, 1) := by decide +kernel
theorem dL_addLoad_0 : decode cL_addLoad 0 = .ok (.aload 7, 2) := by decide +kernel
theorem dL_addLoad_2 : decode cL_addLoad 2 = .ok (.iconst 0, 1) := by decide +kernel
theorem dL_addLoad_3 : decode cL_addLoad 3 = .ok (.aload_n 0, 1) := by decide +kernel
theorem dL_addLoad_4 : decode cL_addLoad 4 = .ok (.iload_n 1, 1) := by decide +kernel
theorem dL_addLoad_5 : decode cL_addLoad 5 = .ok (.iload_n 2, 1) := by decide +kernel
theorem dL_addLoad_6 : decode cL_addLoad 6 = .ok (.iload_n 3, 1) := by decide +kernel
theorem dL_addLoad_7 : decode cL_addLoad 7 = .ok (.iload 4, 2) := by decide +kernel
theorem dL_addLoad_9 : decode cL_addLoad 9 = .ok (.iload 5, 2) := by decide +kernel
theorem dL_addLoad_11 : decode cL_addLoad 11 = .ok (.iload 6, 2) := by decide +kernel
theorem dL_addLoad_13 : decode cL_addLoad 13 = .ok (.invokevirtual 136, 3) := by decide +kernel
theorem dL_addLoad_16 : decode cL_addLoad 16 = .ok (.i2l, 1) := by decide +kernel
theorem dL_addLoad_17 : decode cL_addLoad 17 = .ok (.lastore, 1) := by decide +kernel
theorem dL_addLoad_18 : decode cL_addLoad 18 = .ok (.goto 15, 3) := by decide +kernel
theorem dL_addLoad_21 : decode cL_addLoad 21 = .ok (.astore 8, 2) := by decide +kernel
theorem dL_addLoad_23 : decode cL_addLoad 23 = .ok (.iconst 1, 1) := by decide +kernel
theorem dL_addLoad_24 : decode cL_addLoad 24 = .ok (.ireturn, 1) := by decide +kernel
theorem dL_addLoad_25 : decode cL_addLoad 25 = .ok (.astore 8, 2) := by decide +kernel
theorem dL_addLoad_27 : decode cL_addLoad 27 = .ok (.iconst 2, 1) := by decide +kernel
theorem dL_addLoad_28 : decode cL_addLoad 28 = .ok (.ireturn, 1) := by decide +kernel
theorem dL_addLoad_29 : decode cL_addLoad 29 = .ok (.astore 8, 2) := by decide +kernel
theorem dL_addLoad_31 : decode cL_addLoad 31 = .ok (.iconst 3, 1) := by decide +kernel
theorem dL_addLoad_32 : decode cL_addLoad 32 = .ok (.ireturn, 1) := by decide +kernel
theorem dL_addLoad_33 : decode cL_addLoad 33 = .ok (.iconst 0, 1) := by decide +kernel
theorem dL_addLoad_34 : decode cL_addLoad 34 = .ok (.ireturn, 1) := by decide +kernel
theorem dL_removeLoad_0 : decode cL_removeLoad 0 = .ok (.aload_n 2, 1) := by decide +kernel
theorem dL_removeLoad_1 : decode cL_removeLoad 1 = .ok (.iconst 0, 1) := by decide +kernel
theorem dL_removeLoad_2 : decode cL_removeLoad 2 = .ok (.aload_n 0, 1) := by decide +kernel
theorem dL_removeLoad_3 : decode cL_removeLoad 3 = .ok (.iload_n 1, 1) := by decide +kernel
theorem dL_removeLoad_4 : decode cL_removeLoad 4 = .ok (.invokevirtual 140, 3) := by decide +kernel
theorem dL_removeLoad_7 : decode cL_removeLoad 7 = .ok (.i2l, 1) := by decide +kernel
theorem dL_removeLoad_8 : decode cL_removeLoad 8 = .ok (.lastore, 1) := by decide +kernel
theorem dL_removeLoad_9 : decode cL_removeLoad 9 = .ok (.goto 6, 3) := by decide +kernel
theorem dL_removeLoad_12 : decode cL_removeLoad 12 = .ok (.astore_n 3, 1) := by decide +kernel
theorem dL_removeLoad_13 : decode cL_removeLoad 13 = .ok (.iconst 1, 1) := by decide +kernel
theorem dL_removeLoad_14 : decode cL_removeLoad 14 = .ok (.ireturn, 1) := by decide +kernel
theorem dL_removeLoad_15 : decode cL_removeLoad 15 = .ok (.iconst 0, 1) := by decide +kernel
theorem dL_removeLoad_16 : decode cL_removeLoad 16 = .ok (.ireturn, 1) := by decide +kernel
theorem dL_setCount_0 : decode cL_setCount 0 = .ok (.aload_n 3, 1) := by decide +kernel
theorem dL_setCount_1 : decode cL_setCount 1 = .ok (.iconst 0, 1) := by decide +kernel
theorem dL_setCount_2 : decode cL_setCount 2 = .ok (.aload_n 0, 1) := by decide +kernel
theorem dL_setCount_3 : decode cL_setCount 3 = .ok (.iload_n 1, 1) := by decide +kernel
theorem dL_setCount_4 : decode cL_setCount 4 = .ok (.iload_n 2, 1) := by decide +kernel
theorem dL_setCount_5 : decode cL_setCount 5 = .ok (.invokevirtual 143, 3) := by decide +kernel
theorem dL_setCount_8 : decode cL_setCount 8 = .ok (.i2l, 1) := by decide +kernel
theorem dL_setCount_9 : decode cL_setCount 9 = .ok (.lastore, 1) := by decide +kernel
theorem dL_setCount_10 : decode cL_setCount 10 = .ok (.goto 11, 3) := by decide +kernel
theorem dL_setCount_13 : decode cL_setCount 13 = .ok (.astore 4, 2) := by decide +kernel
theorem dL_setCount_15 : decode cL_setCount 15 = .ok (.iconst 1, 1) := by decide +kernel
theorem dL_setCount_16 : decode cL_setCount 16 = .ok (.ireturn, 1) := by decide +kernel
theorem dL_setCount_17 : decode cL_setCount 17 = .ok (.astore 4, 2) := by decide +kernel
theorem dL_setCount_19 : decode cL_setCount 19 = .ok (.iconst 2, 1) := by decide +kernel
theorem dL_setCount_20 : decode cL_setCount 20 = .ok (.ireturn, 1) := by decide +kernel
theorem dL_setCount_21 : decode cL_setCount 21 = .ok (.iconst 0, 1) := by decide +kernel
theorem dL_setCount_22 : decode cL_setCount 22 = .ok (.ireturn, 1) := by decide +kernel
theorem dL_close_0 : decode cL_close 0 = .ok (.aload_n 3, 1) := by decide +kernel
theorem dL_close_1 : decode cL_close 1 = .ok (.iconst 0, 1) := by decide +kernel
theorem dL_close_2 : decode cL_close 2 = .ok (.aload_n 0, 1) := by decide +kernel
theorem dL_close_3 : decode cL_close 3 = .ok (.iload_n 1, 1) := by decide +kernel
theorem dL_close_4 : decode cL_close 4 = .ok (.iload_n 2, 1) := by decide +kernel
theorem dL_close_5 : decode cL_close 5 = .ok (.invokevirtual 146, 3) := by decide +kernel
theorem dL_close_8 : decode cL_close 8 = .ok (.ifCond .eq 7, 3) := by decide +kernel
theorem dL_close_11 : decode cL_close 11 = .ok (.lconst 1, 1) := by decide +kernel
theorem dL_close_12 : decode cL_close 12 = .ok (.goto 4, 3) := by decide +kernel
theorem dL_close_15 : decode cL_close 15 = .ok (.lconst 0, 1) := by decide +kernel
theorem dL_close_16 : decode cL_close 16 = .ok (.lastore, 1) := by decide +kernel
theorem dL_close_17 : decode cL_close 17 = .ok (.goto 7, 3) := by decide +kernel
theorem dL_close_20 : decode cL_close 20 = .ok (.astore 4, 2) := by decide +kernel
theorem dL_close_22 : decode cL_close 22 = .ok (.iconst 1, 1) := by decide +kernel
theorem dL_close_23 : decode cL_close 23 = .ok (.ireturn, 1) := by decide +kernel
theorem dL_close_24 : decode cL_close 24 = .ok (.iconst 0, 1) := by decide +kernel
theorem dL_close_25 : decode cL_close 25 = .ok (.ireturn, 1) := by decide +kernel
theorem dL_patch_0 : decode cL_patch 0 = .ok (.aload 4, 2) := by decide +kernel
theorem dL_patch_2 : decode cL_patch 2 = .ok (.iconst 0, 1) := by decide +kernel
theorem dL_patch_3 : decode cL_patch 3 = .ok (.aload_n 0, 1) := by decide +kernel
theorem dL_patch_4 : decode cL_patch 4 = .ok (.iload_n 1, 1) := by decide +kernel
theorem dL_patch_5 : decode cL_patch 5 = .ok (.iload_n 2, 1) := by decide +kernel
theorem dL_patch_6 : decode cL_patch 6 = .ok (.iload_n 3, 1) := by decide +kernel
theorem dL_patch_7 : decode cL_patch 7 = .ok (.invokevirtual 150, 3) := by decide +kernel
theorem dL_patch_10 : decode cL_patch 10 = .ok (.i2l, 1) := by decide +kernel
theorem dL_patch_11 : decode cL_patch 11 = .ok (.lastore, 1) := by decide +kernel
theorem dL_patch_12 : decode cL_patch 12 = .ok (.goto 11, 3) := by decide +kernel
theorem dL_patch_15 : decode cL_patch 15 = .ok (.astore 5, 2) := by decide +kernel
theorem dL_patch_17 : decode cL_patch 17 = .ok (.iconst 1, 1) := by decide +kernel
theorem dL_patch_18 : decode cL_patch 18 = .ok (.ireturn, 1) := by decide +kernel
theorem dL_patch_19 : decode cL_patch 19 = .ok (.astore 5, 2) := by decide +kernel
theorem dL_patch_21 : decode cL_patch 21 = .ok (.iconst 2, 1) := by decide +kernel
theorem dL_patch_22 : decode cL_patch 22 = .ok (.ireturn, 1) := by decide +kernel
theorem dL_patch_23 : decode cL_patch 23 = .ok (.iconst 0, 1) := by decide +kernel
theorem dL_patch_24 : decode cL_patch 24 = .ok (.ireturn, 1) := by decide +kernel
theorem dL_set_0 : decode cL_set 0 = .ok (.aload_n 3, 1) := by decide +kernel
theorem dL_set_1 : decode cL_set 1 = .ok (.iconst 0, 1) := by decide +kernel
theorem dL_set_2 : decode cL_set 2 = .ok (.aload_n 0, 1) := by decide +kernel
theorem dL_set_3 : decode cL_set 3 = .ok (.iload_n 1, 1) := by decide +kernel
theorem dL_set_4 : decode cL_set 4 = .ok (.iload_n 2, 1) := by decide +kernel
theorem dL_set_5 : decode cL_set 5 = .ok (.invokevirtual 153, 3) := by decide +kernel
theorem dL_set_8 : decode cL_set 8 = .ok (.i2l, 1) := by decide +kernel
theorem dL_set_9 : decode cL_set 9 = .ok (.lastore, 1) := by decide +kernel
theorem dL_set_10 : decode cL_set 10 = .ok (.goto 7, 3) := by decide +kernel
theorem dL_set_13 : decode cL_set 13 = .ok (.astore 4, 2) := by decide +kernel
theorem dL_set_15 : decode cL_set 15 = .ok (.iconst 1, 1) := by decide +kernel
theorem dL_set_16 : decode cL_set 16 = .ok (.ireturn, 1) := by decide +kernel
theorem dL_set_17 : decode cL_set 17 = .ok (.iconst 0, 1) := by decide +kernel
theorem dL_set_18 : decode cL_set 18 = .ok (.ireturn, 1) := by decide +kernel
theorem dL_give_0 : decode cL_give 0 = .ok (.aload_n 2, 1) := by decide +kernel
theorem dL_give_1 : decode cL_give 1 = .ok (.iconst 0, 1) := by decide +kernel
theorem dL_give_2 : decode cL_give 2 = .ok (.aload_n 0, 1) := by decide +kernel
theorem dL_give_3 : decode cL_give 3 = .ok (.iload_n 1, 1) := by decide +kernel
theorem dL_give_4 : decode cL_give 4 = .ok (.invokevirtual 156, 3) := by decide +kernel
theorem dL_give_7 : decode cL_give 7 = .ok (.i2l, 1) := by decide +kernel
theorem dL_give_8 : decode cL_give 8 = .ok (.lastore, 1) := by decide +kernel
theorem dL_give_9 : decode cL_give 9 = .ok (.goto 6, 3) := by decide +kernel
theorem dL_give_12 : decode cL_give 12 = .ok (.astore_n 3, 1) := by decide +kernel
theorem dL_give_13 : decode cL_give 13 = .ok (.iconst 1, 1) := by decide +kernel
theorem dL_give_14 : decode cL_give 14 = .ok (.ireturn, 1) := by decide +kernel
theorem dL_give_15 : decode cL_give 15 = .ok (.iconst 0, 1) := by decide +kernel
theorem dL_give_16 : decode cL_give 16 = .ok (.ireturn, 1) := by decide +kernel
theorem dL_undo_0 : decode cL_undo 0 = .ok (.aload_n 1, 1) := by decide +kernel
theorem dL_undo_1 : decode cL_undo 1 = .ok (.iconst 0, 1) := by decide +kernel
theorem dL_undo_2 : decode cL_undo 2 = .ok (.aload_n 0, 1) := by decide +kernel
theorem dL_undo_3 : decode cL_undo 3 = .ok (.invokevirtual 159, 3) := by decide +kernel
theorem dL_undo_6 : decode cL_undo 6 = .ok (.i2l, 1) := by decide +kernel
theorem dL_undo_7 : decode cL_undo 7 = .ok (.lastore, 1) := by decide +kernel
theorem dL_undo_8 : decode cL_undo 8 = .ok (.goto 6, 3) := by decide +kernel
theorem dL_undo_11 : decode cL_undo 11 = .ok (.astore_n 2, 1) := by decide +kernel
theorem dL_undo_12 : decode cL_undo 12 = .ok (.iconst 1, 1) := by decide +kernel
theorem dL_undo_13 : decode cL_undo 13 = .ok (.ireturn, 1) := by decide +kernel
theorem dL_undo_14 : decode cL_undo 14 = .ok (.iconst 0, 1) := by decide +kernel
theorem dL_undo_15 : decode cL_undo 15 = .ok (.ireturn, 1) := by decide +kernel
theorem dL_printCell_0 : decode cL_printCell 0 = .ok (.aload_n 2, 1) := by decide +kernel
theorem dL_printCell_1 : decode cL_printCell 1 = .ok (.iconst 0, 1) := by decide +kernel
theorem dL_printCell_2 : decode cL_printCell 2 = .ok (.aload_n 0, 1) := by decide +kernel
theorem dL_printCell_3 : decode cL_printCell 3 = .ok (.iload_n 1, 1) := by decide +kernel
theorem dL_printCell_4 : decode cL_printCell 4 = .ok (.invokevirtual 162, 3) := by decide +kernel
theorem dL_printCell_7 : decode cL_printCell 7 = .ok (.i2l, 1) := by decide +kernel
theorem dL_printCell_8 : decode cL_printCell 8 = .ok (.lastore, 1) := by decide +kernel
theorem dL_printCell_9 : decode cL_printCell 9 = .ok (.goto 6, 3) := by decide +kernel
theorem dL_printCell_12 : decode cL_printCell 12 = .ok (.astore_n 3, 1) := by decide +kernel
theorem dL_printCell_13 : decode cL_printCell 13 = .ok (.iconst 1, 1) := by decide +kernel
theorem dL_printCell_14 : decode cL_printCell 14 = .ok (.ireturn, 1) := by decide +kernel
theorem dL_printCell_15 : decode cL_printCell 15 = .ok (.iconst 0, 1) := by decide +kernel
theorem dL_printCell_16 : decode cL_printCell 16 = .ok (.ireturn, 1) := by decide +kernel
theorem dL_printLane_0 : decode cL_printLane 0 = .ok (.aload_n 2, 1) := by decide +kernel
theorem dL_printLane_1 : decode cL_printLane 1 = .ok (.iconst 0, 1) := by decide +kernel
theorem dL_printLane_2 : decode cL_printLane 2 = .ok (.aload_n 0, 1) := by decide +kernel
theorem dL_printLane_3 : decode cL_printLane 3 = .ok (.iload_n 1, 1) := by decide +kernel
theorem dL_printLane_4 : decode cL_printLane 4 = .ok (.invokevirtual 165, 3) := by decide +kernel
theorem dL_printLane_7 : decode cL_printLane 7 = .ok (.i2l, 1) := by decide +kernel
theorem dL_printLane_8 : decode cL_printLane 8 = .ok (.lastore, 1) := by decide +kernel
theorem dL_printLane_9 : decode cL_printLane 9 = .ok (.goto 6, 3) := by decide +kernel
theorem dL_printLane_12 : decode cL_printLane 12 = .ok (.astore_n 3, 1) := by decide +kernel
theorem dL_printLane_13 : decode cL_printLane 13 = .ok (.iconst 1, 1) := by decide +kernel
theorem dL_printLane_14 : decode cL_printLane 14 = .ok (.ireturn, 1) := by decide +kernel
theorem dL_printLane_15 : decode cL_printLane 15 = .ok (.iconst 0, 1) := by decide +kernel
theorem dL_printLane_16 : decode cL_printLane 16 = .ok (.ireturn, 1) := by decide +kernel
theorem dL_restoreState_0 : decode cL_restoreState 0 = .ok (.aload_n 1, 1) := by decide +kernel
theorem dL_restoreState_1 : decode cL_restoreState 1 = .ok (.iconst 0, 1) := by decide +kernel
theorem dL_restoreState_2 : decode cL_restoreState 2 = .ok (.aload_n 0, 1) := by decide +kernel
theorem dL_restoreState_3 : decode cL_restoreState 3 = .ok (.invokevirtual 168, 3) := by decide +kernel
theorem dL_restoreState_6 : decode cL_restoreState 6 = .ok (.i2l, 1) := by decide +kernel
theorem dL_restoreState_7 : decode cL_restoreState 7 = .ok (.lastore, 1) := by decide +kernel
theorem dL_restoreState_8 : decode cL_restoreState 8 = .ok (.goto 6, 3) := by decide +kernel
theorem dL_restoreState_11 : decode cL_restoreState 11 = .ok (.astore_n 2, 1) := by decide +kernel
theorem dL_restoreState_12 : decode cL_restoreState 12 = .ok (.iconst 1, 1) := by decide +kernel
theorem dL_restoreState_13 : decode cL_restoreState 13 = .ok (.ireturn, 1) := by decide +kernel
theorem dL_restoreState_14 : decode cL_restoreState 14 = .ok (.iconst 0, 1) := by decide +kernel
theorem dL_restoreState_15 : decode cL_restoreState 15 = .ok (.ireturn, 1) := by decide +kernel
