/-! the wrappers, instruction by instruction -/
theorem dL_count_0 : decode cL_count 0 = .ok (.aload_n 2, 1) := by decide +kernel
theorem dL_count_1 : decode cL_count 1 = .ok (.iconst 0, 1) := by decide +kernel
theorem dL_count_2 : decode cL_count 2 = .ok (.aload_n 0, 1) := by decide +kernel
theorem dL_count_3 : decode cL_count 3 = .ok (.iload_n 1, 1) := by decide +kernel
theorem dL_count_4 : decode cL_count 4 = .ok (.invokevirtual 7, 3) := by decide +kernel
theorem dL_count_7 : decode cL_count 7 = .ok (.i2l, 1) := by decide +kernel
theorem dL_count_8 : decode cL_count 8 = .ok (.lastore, 1) := by decide +kernel
theorem dL_count_9 : decode cL_count 9 = .ok (.goto 6, 3) := by decide +kernel
theorem dL_count_12 : decode cL_count 12 = .ok (.astore_n 3, 1) := by decide +kernel
theorem dL_count_13 : decode cL_count 13 = .ok (.iconst 1, 1) := by decide +kernel
theorem dL_count_14 : decode cL_count 14 = .ok (.ireturn, 1) := by decide +kernel
theorem dL_count_15 : decode cL_count 15 = .ok (.iconst 0, 1) := by decide +kernel
theorem dL_count_16 : decode cL_count 16 = .ok (.ireturn, 1) := by decide +kernel
theorem dL_body_0 : decode cL_body 0 = .ok (.aload_n 3, 1) := by decide +kernel
theorem dL_body_1 : decode cL_body 1 = .ok (.iconst 0, 1) := by decide +kernel
theorem dL_body_2 : decode cL_body 2 = .ok (.aload_n 0, 1) := by decide +kernel
theorem dL_body_3 : decode cL_body 3 = .ok (.iload_n 1, 1) := by decide +kernel
theorem dL_body_4 : decode cL_body 4 = .ok (.iload_n 2, 1) := by decide +kernel
theorem dL_body_5 : decode cL_body 5 = .ok (.invokevirtual 15, 3) := by decide +kernel
theorem dL_body_8 : decode cL_body 8 = .ok (.i2l, 1) := by decide +kernel
theorem dL_body_9 : decode cL_body 9 = .ok (.lastore, 1) := by decide +kernel
theorem dL_body_10 : decode cL_body 10 = .ok (.goto 11, 3) := by decide +kernel
theorem dL_body_13 : decode cL_body 13 = .ok (.astore 4, 2) := by decide +kernel
theorem dL_body_15 : decode cL_body 15 = .ok (.iconst 1, 1) := by decide +kernel
theorem dL_body_16 : decode cL_body 16 = .ok (.ireturn, 1) := by decide +kernel
theorem dL_body_17 : decode cL_body 17 = .ok (.astore 4, 2) := by decide +kernel
theorem dL_body_19 : decode cL_body 19 = .ok (.iconst 2, 1) := by decide +kernel
theorem dL_body_20 : decode cL_body 20 = .ok (.ireturn, 1) := by decide +kernel
theorem dL_body_21 : decode cL_body 21 = .ok (.iconst 0, 1) := by decide +kernel
theorem dL_body_22 : decode cL_body 22 = .ok (.ireturn, 1) := by decide +kernel
theorem dL_part_0 : decode cL_part 0 = .ok (.aload 4, 2) := by decide +kernel
theorem dL_part_2 : decode cL_part 2 = .ok (.iconst 0, 1) := by decide +kernel
theorem dL_part_3 : decode cL_part 3 = .ok (.aload_n 0, 1) := by decide +kernel
theorem dL_part_4 : decode cL_part 4 = .ok (.iload_n 1, 1) := by decide +kernel
theorem dL_part_5 : decode cL_part 5 = .ok (.iload_n 2, 1) := by decide +kernel
theorem dL_part_6 : decode cL_part 6 = .ok (.iload_n 3, 1) := by decide +kernel
theorem dL_part_7 : decode cL_part 7 = .ok (.invokevirtual 21, 3) := by decide +kernel
theorem dL_part_10 : decode cL_part 10 = .ok (.i2l, 1) := by decide +kernel
theorem dL_part_11 : decode cL_part 11 = .ok (.lastore, 1) := by decide +kernel
theorem dL_part_12 : decode cL_part 12 = .ok (.goto 15, 3) := by decide +kernel
theorem dL_part_15 : decode cL_part 15 = .ok (.astore 5, 2) := by decide +kernel
theorem dL_part_17 : decode cL_part 17 = .ok (.iconst 1, 1) := by decide +kernel
theorem dL_part_18 : decode cL_part 18 = .ok (.ireturn, 1) := by decide +kernel
theorem dL_part_19 : decode cL_part 19 = .ok (.astore 5, 2) := by decide +kernel
theorem dL_part_21 : decode cL_part 21 = .ok (.iconst 2, 1) := by decide +kernel
theorem dL_part_22 : decode cL_part 22 = .ok (.ireturn, 1) := by decide +kernel
theorem dL_part_23 : decode cL_part 23 = .ok (.astore 5, 2) := by decide +kernel
theorem dL_part_25 : decode cL_part 25 = .ok (.iconst 3, 1) := by decide +kernel
theorem dL_part_26 : decode cL_part 26 = .ok (.ireturn, 1) := by decide +kernel
theorem dL_part_27 : decode cL_part 27 = .ok (.iconst 0, 1) := by decide +kernel
theorem dL_part_28 : decode cL_part 28 = .ok (.ireturn, 1) := by decide +kernel
theorem dL_stock_0 : decode cL_stock 0 = .ok (.aload_n 2, 1) := by decide +kernel
theorem dL_stock_1 : decode cL_stock 1 = .ok (.iconst 0, 1) := by decide +kernel
theorem dL_stock_2 : decode cL_stock 2 = .ok (.aload_n 0, 1) := by decide +kernel
theorem dL_stock_3 : decode cL_stock 3 = .ok (.iload_n 1, 1) := by decide +kernel
theorem dL_stock_4 : decode cL_stock 4 = .ok (.invokevirtual 27, 3) := by decide +kernel
theorem dL_stock_7 : decode cL_stock 7 = .ok (.i2l, 1) := by decide +kernel
theorem dL_stock_8 : decode cL_stock 8 = .ok (.lastore, 1) := by decide +kernel
theorem dL_stock_9 : decode cL_stock 9 = .ok (.goto 6, 3) := by decide +kernel
theorem dL_stock_12 : decode cL_stock 12 = .ok (.astore_n 3, 1) := by decide +kernel
theorem dL_stock_13 : decode cL_stock 13 = .ok (.iconst 1, 1) := by decide +kernel
theorem dL_stock_14 : decode cL_stock 14 = .ok (.ireturn, 1) := by decide +kernel
theorem dL_stock_15 : decode cL_stock 15 = .ok (.iconst 0, 1) := by decide +kernel
theorem dL_stock_16 : decode cL_stock 16 = .ok (.ireturn, 1) := by decide +kernel
theorem dL_numerator_0 : decode cL_numerator 0 = .ok (.aload_n 2, 1) := by decide +kernel
theorem dL_numerator_1 : decode cL_numerator 1 = .ok (.iconst 0, 1) := by decide +kernel
theorem dL_numerator_2 : decode cL_numerator 2 = .ok (.aload_n 0, 1) := by decide +kernel
theorem dL_numerator_3 : decode cL_numerator 3 = .ok (.iload_n 1, 1) := by decide +kernel
theorem dL_numerator_4 : decode cL_numerator 4 = .ok (.invokevirtual 30, 3) := by decide +kernel
theorem dL_numerator_7 : decode cL_numerator 7 = .ok (.lastore, 1) := by decide +kernel
theorem dL_numerator_8 : decode cL_numerator 8 = .ok (.goto 6, 3) := by decide +kernel
theorem dL_numerator_11 : decode cL_numerator 11 = .ok (.astore_n 3, 1) := by decide +kernel
theorem dL_numerator_12 : decode cL_numerator 12 = .ok (.iconst 1, 1) := by decide +kernel
theorem dL_numerator_13 : decode cL_numerator 13 = .ok (.ireturn, 1) := by decide +kernel
theorem dL_numerator_14 : decode cL_numerator 14 = .ok (.iconst 0, 1) := by decide +kernel
theorem dL_numerator_15 : decode cL_numerator 15 = .ok (.ireturn, 1) := by decide +kernel
theorem dL_denominator_0 : decode cL_denominator 0 = .ok (.aload_n 2, 1) := by decide +kernel
theorem dL_denominator_1 : decode cL_denominator 1 = .ok (.iconst 0, 1) := by decide +kernel
theorem dL_denominator_2 : decode cL_denominator 2 = .ok (.aload_n 0, 1) := by decide +kernel
theorem dL_denominator_3 : decode cL_denominator 3 = .ok (.iload_n 1, 1) := by decide +kernel
theorem dL_denominator_4 : decode cL_denominator 4 = .ok (.invokevirtual 34, 3) := by decide +kernel
theorem dL_denominator_7 : decode cL_denominator 7 = .ok (.lastore, 1) := by decide +kernel
theorem dL_denominator_8 : decode cL_denominator 8 = .ok (.goto 6, 3) := by decide +kernel
theorem dL_denominator_11 : decode cL_denominator 11 = .ok (.astore_n 3, 1) := by decide +kernel
theorem dL_denominator_12 : decode cL_denominator 12 = .ok (.iconst 1, 1) := by decide +kernel
theorem dL_denominator_13 : decode cL_denominator 13 = .ok (.ireturn, 1) := by decide +kernel
theorem dL_denominator_14 : decode cL_denominator 14 = .ok (.iconst 0, 1) := by decide +kernel
theorem dL_denominator_15 : decode cL_denominator 15 = .ok (.ireturn, 1) := by decide +kernel
theorem dL_daysOf_0 : decode cL_daysOf 0 = .ok (.aload_n 2, 1) := by decide +kernel
theorem dL_daysOf_1 : decode cL_daysOf 1 = .ok (.iconst 0, 1) := by decide +kernel
theorem dL_daysOf_2 : decode cL_daysOf 2 = .ok (.aload_n 0, 1) := by decide +kernel
theorem dL_daysOf_3 : decode cL_daysOf 3 = .ok (.iload_n 1, 1) := by decide +kernel
theorem dL_daysOf_4 : decode cL_daysOf 4 = .ok (.invokevirtual 37, 3) := by decide +kernel
theorem dL_daysOf_7 : decode cL_daysOf 7 = .ok (.i2l, 1) := by decide +kernel
theorem dL_daysOf_8 : decode cL_daysOf 8 = .ok (.lastore, 1) := by decide +kernel
theorem dL_daysOf_9 : decode cL_daysOf 9 = .ok (.goto 6, 3) := by decide +kernel
theorem dL_daysOf_12 : decode cL_daysOf 12 = .ok (.astore_n 3, 1) := by decide +kernel
theorem dL_daysOf_13 : decode cL_daysOf 13 = .ok (.iconst 1, 1) := by decide +kernel
theorem dL_daysOf_14 : decode cL_daysOf 14 = .ok (.ireturn, 1) := by decide +kernel
theorem dL_daysOf_15 : decode cL_daysOf 15 = .ok (.iconst 0, 1) := by decide +kernel
theorem dL_daysOf_16 : decode cL_daysOf 16 = .ok (.ireturn, 1) := by decide +kernel
theorem dL_endOf_0 : decode cL_endOf 0 = .ok (.aload_n 2, 1) := by decide +kernel
theorem dL_endOf_1 : decode cL_endOf 1 = .ok (.iconst 0, 1) := by decide +kernel
theorem dL_endOf_2 : decode cL_endOf 2 = .ok (.aload_n 0, 1) := by decide +kernel
theorem dL_endOf_3 : decode cL_endOf 3 = .ok (.iload_n 1, 1) := by decide +kernel
theorem dL_endOf_4 : decode cL_endOf 4 = .ok (.invokevirtual 40, 3) := by decide +kernel
theorem dL_endOf_7 : decode cL_endOf 7 = .ok (.i2l, 1) := by decide +kernel
theorem dL_endOf_8 : decode cL_endOf 8 = .ok (.lastore, 1) := by decide +kernel
theorem dL_endOf_9 : decode cL_endOf 9 = .ok (.goto 6, 3) := by decide +kernel
theorem dL_endOf_12 : decode cL_endOf 12 = .ok (.astore_n 3, 1) := by decide +kernel
theorem dL_endOf_13 : decode cL_endOf 13 = .ok (.iconst 1, 1) := by decide +kernel
theorem dL_endOf_14 : decode cL_endOf 14 = .ok (.ireturn, 1) := by decide +kernel
theorem dL_endOf_15 : decode cL_endOf 15 = .ok (.iconst 0, 1) := by decide +kernel
theorem dL_endOf_16 : decode cL_endOf 16 = .ok (.ireturn, 1) := by decide +kernel
theorem dL_yearOf_0 : decode cL_yearOf 0 = .ok (.aload_n 2, 1) := by decide +kernel
theorem dL_yearOf_1 : decode cL_yearOf 1 = .ok (.iconst 0, 1) := by decide +kernel
theorem dL_yearOf_2 : decode cL_yearOf 2 = .ok (.aload_n 0, 1) := by decide +kernel
theorem dL_yearOf_3 : decode cL_yearOf 3 = .ok (.iload_n 1, 1) := by decide +kernel
theorem dL_yearOf_4 : decode cL_yearOf 4 = .ok (.invokevirtual 43, 3) := by decide +kernel
theorem dL_yearOf_7 : decode cL_yearOf 7 = .ok (.i2l, 1) := by decide +kernel
theorem dL_yearOf_8 : decode cL_yearOf 8 = .ok (.lastore, 1) := by decide +kernel
theorem dL_yearOf_9 : decode cL_yearOf 9 = .ok (.goto 6, 3) := by decide +kernel
theorem dL_yearOf_12 : decode cL_yearOf 12 = .ok (.astore_n 3, 1) := by decide +kernel
theorem dL_yearOf_13 : decode cL_yearOf 13 = .ok (.iconst 1, 1) := by decide +kernel
theorem dL_yearOf_14 : decode cL_yearOf 14 = .ok (.ireturn, 1) := by decide +kernel
theorem dL_yearOf_15 : decode cL_yearOf 15 = .ok (.iconst 0, 1) := by decide +kernel
theorem dL_yearOf_16 : decode cL_yearOf 16 = .ok (.ireturn, 1) := by decide +kernel
theorem dL_errorBy_0 : decode cL_errorBy 0 = .ok (.aload_n 3, 1) := by decide +kernel
theorem dL_errorBy_1 : decode cL_errorBy 1 = .ok (.iconst 0, 1) := by decide +kernel
theorem dL_errorBy_2 : decode cL_errorBy 2 = .ok (.aload_n 0, 1) := by decide +kernel
theorem dL_errorBy_3 : decode cL_errorBy 3 = .ok (.iload_n 1, 1) := by decide +kernel
theorem dL_errorBy_4 : decode cL_errorBy 4 = .ok (.iload_n 2, 1) := by decide +kernel
theorem dL_errorBy_5 : decode cL_errorBy 5 = .ok (.invokevirtual 46, 3) := by decide +kernel
theorem dL_errorBy_8 : decode cL_errorBy 8 = .ok (.lastore, 1) := by decide +kernel
theorem dL_errorBy_9 : decode cL_errorBy 9 = .ok (.goto 11, 3) := by decide +kernel
theorem dL_errorBy_12 : decode cL_errorBy 12 = .ok (.astore 4, 2) := by decide +kernel
theorem dL_errorBy_14 : decode cL_errorBy 14 = .ok (.iconst 1, 1) := by decide +kernel
theorem dL_errorBy_15 : decode cL_errorBy 15 = .ok (.ireturn, 1) := by decide +kernel
theorem dL_errorBy_16 : decode cL_errorBy 16 = .ok (.astore 4, 2) := by decide +kernel
theorem dL_errorBy_18 : decode cL_errorBy 18 = .ok (.iconst 2, 1) := by decide +kernel
theorem dL_errorBy_19 : decode cL_errorBy 19 = .ok (.ireturn, 1) := by decide +kernel
theorem dL_errorBy_20 : decode cL_errorBy 20 = .ok (.iconst 0, 1) := by decide +kernel
theorem dL_errorBy_21 : decode cL_errorBy 21 = .ok (.ireturn, 1) := by decide +kernel
theorem dL_error_0 : decode cL_error 0 = .ok (.aload_n 3, 1) := by decide +kernel
theorem dL_error_1 : decode cL_error 1 = .ok (.iconst 0, 1) := by decide +kernel
theorem dL_error_2 : decode cL_error 2 = .ok (.aload_n 0, 1) := by decide +kernel
theorem dL_error_3 : decode cL_error 3 = .ok (.iload_n 1, 1) := by decide +kernel
theorem dL_error_4 : decode cL_error 4 = .ok (.iload_n 2, 1) := by decide +kernel
theorem dL_error_5 : decode cL_error 5 = .ok (.invokevirtual 50, 3) := by decide +kernel
theorem dL_error_8 : decode cL_error 8 = .ok (.lastore, 1) := by decide +kernel
theorem dL_error_9 : decode cL_error 9 = .ok (.goto 11, 3) := by decide +kernel
theorem dL_error_12 : decode cL_error 12 = .ok (.astore 4, 2) := by decide +kernel
theorem dL_error_14 : decode cL_error 14 = .ok (.iconst 1, 1) := by decide +kernel
theorem dL_error_15 : decode cL_error 15 = .ok (.ireturn, 1) := by decide +kernel
theorem dL_error_16 : decode cL_error 16 = .ok (.astore 4, 2) := by decide +kernel
theorem dL_error_18 : decode cL_error 18 = .ok (.iconst 2, 1) := by decide +kernel
theorem dL_error_19 : decode cL_error 19 = .ok (.ireturn, 1) := by decide +kernel
theorem dL_error_20 : decode cL_error 20 = .ok (.iconst 0, 1) := by decide +kernel
theorem dL_error_21 : decode cL_error 21 = .ok (.ireturn, 1) := by decide +kernel
theorem dL_angle_0 : decode cL_angle 0 = .ok (.aload_n 3, 1) := by decide +kernel
theorem dL_angle_1 : decode cL_angle 1 = .ok (.iconst 0, 1) := by decide +kernel
theorem dL_angle_2 : decode cL_angle 2 = .ok (.aload_n 0, 1) := by decide +kernel
theorem dL_angle_3 : decode cL_angle 3 = .ok (.iload_n 1, 1) := by decide +kernel
theorem dL_angle_4 : decode cL_angle 4 = .ok (.iload_n 2, 1) := by decide +kernel
theorem dL_angle_5 : decode cL_angle 5 = .ok (.invokevirtual 53, 3) := by decide +kernel
theorem dL_angle_8 : decode cL_angle 8 = .ok (.i2l, 1) := by decide +kernel
theorem dL_angle_9 : decode cL_angle 9 = .ok (.lastore, 1) := by decide +kernel
theorem dL_angle_10 : decode cL_angle 10 = .ok (.goto 11, 3) := by decide +kernel
theorem dL_angle_13 : decode cL_angle 13 = .ok (.astore 4, 2) := by decide +kernel
theorem dL_angle_15 : decode cL_angle 15 = .ok (.iconst 1, 1) := by decide +kernel
theorem dL_angle_16 : decode cL_angle 16 = .ok (.ireturn, 1) := by decide +kernel
theorem dL_angle_17 : decode cL_angle 17 = .ok (.astore 4, 2) := by decide +kernel
theorem dL_angle_19 : decode cL_angle 19 = .ok (.iconst 2, 1) := by decide +kernel
theorem dL_angle_20 : decode cL_angle 20 = .ok (.ireturn, 1) := by decide +kernel
theorem dL_angle_21 : decode cL_angle 21 = .ok (.iconst 0, 1) := by decide +kernel
theorem dL_angle_22 : decode cL_angle 22 = .ok (.ireturn, 1) := by decide +kernel
theorem dL_trueAngle_0 : decode cL_trueAngle 0 = .ok (.aload_n 3, 1) := by decide +kernel
theorem dL_trueAngle_1 : decode cL_trueAngle 1 = .ok (.iconst 0, 1) := by decide +kernel
theorem dL_trueAngle_2 : decode cL_trueAngle 2 = .ok (.aload_n 0, 1) := by decide +kernel
theorem dL_trueAngle_3 : decode cL_trueAngle 3 = .ok (.iload_n 1, 1) := by decide +kernel
theorem dL_trueAngle_4 : decode cL_trueAngle 4 = .ok (.iload_n 2, 1) := by decide +kernel
theorem dL_trueAngle_5 : decode cL_trueAngle 5 = .ok (.invokevirtual 56, 3) := by decide +kernel
theorem dL_trueAngle_8 : decode cL_trueAngle 8 = .ok (.i2l, 1) := by decide +kernel
theorem dL_trueAngle_9 : decode cL_trueAngle 9 = .ok (.lastore, 1) := by decide +kernel
theorem dL_trueAngle_10 : decode cL_trueAngle 10 = .ok (.goto 11, 3) := by decide +kernel
theorem dL_trueAngle_13 : decode cL_trueAngle 13 = .ok (.astore 4, 2) := by decide +kernel
theorem dL_trueAngle_15 : decode cL_trueAngle 15 = .ok (.iconst 1, 1) := by decide +kernel
theorem dL_trueAngle_16 : decode cL_trueAngle 16 = .ok (.ireturn, 1) := by decide +kernel
theorem dL_trueAngle_17 : decode cL_trueAngle 17 = .ok (.astore 4, 2) := by decide +kernel
theorem dL_trueAngle_19 : decode cL_trueAngle 19 = .ok (.iconst 2, 1) := by decide +kernel
theorem dL_trueAngle_20 : decode cL_trueAngle 20 = .ok (.ireturn, 1) := by decide +kernel
theorem dL_trueAngle_21 : decode cL_trueAngle 21 = .ok (.iconst 0, 1) := by decide +kernel
theorem dL_trueAngle_22 : decode cL_trueAngle 22 = .ok (.ireturn, 1) := by decide +kernel
theorem dL_worst_0 : decode cL_worst 0 = .ok (.aload_n 2, 1) := by decide +kernel
theorem dL_worst_1 : decode cL_worst 1 = .ok (.iconst 0, 1) := by decide +kernel
theorem dL_worst_2 : decode cL_worst 2 = .ok (.aload_n 0, 1) := by decide +kernel
theorem dL_worst_3 : decode cL_worst 3 = .ok (.iload_n 1, 1) := by decide +kernel
theorem dL_worst_4 : decode cL_worst 4 = .ok (.invokevirtual 59, 3) := by decide +kernel
theorem dL_worst_7 : decode cL_worst 7 = .ok (.i2l, 1) := by decide +kernel
theorem dL_worst_8 : decode cL_worst 8 = .ok (.lastore, 1) := by decide +kernel
theorem dL_worst_9 : decode cL_worst 9 = .ok (.goto 6, 3) := by decide +kernel
theorem dL_worst_12 : decode cL_worst 12 = .ok (.astore_n 3, 1) := by decide +kernel
theorem dL_worst_13 : decode cL_worst 13 = .ok (.iconst 1, 1) := by decide +kernel
theorem dL_worst_14 : decode cL_worst 14 = .ok (.ireturn, 1) := by decide +kernel
theorem dL_worst_15 : decode cL_worst 15 = .ok (.iconst 0, 1) := by decide +kernel
theorem dL_worst_16 : decode cL_worst 16 = .ok (.ireturn, 1) := by decide +kernel
theorem dL_ranked_0 : decode cL_ranked 0 = .ok (.aload_n 3, 1) := by decide +kernel
theorem dL_ranked_1 : decode cL_ranked 1 = .ok (.iconst 0, 1) := by decide +kernel
theorem dL_ranked_2 : decode cL_ranked 2 = .ok (.aload_n 0, 1) := by decide +kernel
theorem dL_ranked_3 : decode cL_ranked 3 = .ok (.iload_n 1, 1) := by decide +kernel
theorem dL_ranked_4 : decode cL_ranked 4 = .ok (.iload_n 2, 1) := by decide +kernel
theorem dL_ranked_5 : decode cL_ranked 5 = .ok (.invokevirtual 62, 3) := by decide +kernel
theorem dL_ranked_8 : decode cL_ranked 8 = .ok (.i2l, 1) := by decide +kernel
theorem dL_ranked_9 : decode cL_ranked 9 = .ok (.lastore, 1) := by decide +kernel
theorem dL_ranked_10 : decode cL_ranked 10 = .ok (.goto 11, 3) := by decide +kernel
theorem dL_ranked_13 : decode cL_ranked 13 = .ok (.astore 4, 2) := by decide +kernel
theorem dL_ranked_15 : decode cL_ranked 15 = .ok (.iconst 1, 1) := by decide +kernel
theorem dL_ranked_16 : decode cL_ranked 16 = .ok (.ireturn, 1) := by decide +kernel
theorem dL_ranked_17 : decode cL_ranked 17 = .ok (.astore 4, 2) := by decide +kernel
theorem dL_ranked_19 : decode cL_ranked 19 = .ok (.iconst 2, 1) := by decide +kernel
theorem dL_ranked_20 : decode cL_ranked 20 = .ok (.ireturn, 1) := by decide +kernel
theorem dL_ranked_21 : decode cL_ranked 21 = .ok (.iconst 0, 1) := by decide +kernel
theorem dL_ranked_22 : decode cL_ranked 22 = .ok (.ireturn, 1) := by decide +kernel
theorem dL_firstBeyond_0 : decode cL_firstBeyond 0 = .ok (.aload_n 3, 1) := by decide +kernel
theorem dL_firstBeyond_1 : decode cL_firstBeyond 1 = .ok (.iconst 0, 1) := by decide +kernel
theorem dL_firstBeyond_2 : decode cL_firstBeyond 2 = .ok (.aload_n 0, 1) := by decide +kernel
theorem dL_firstBeyond_3 : decode cL_firstBeyond 3 = .ok (.iload_n 1, 1) := by decide +kernel
theorem dL_firstBeyond_4 : decode cL_firstBeyond 4 = .ok (.iload_n 2, 1) := by decide +kernel
theorem dL_firstBeyond_5 : decode cL_firstBeyond 5 = .ok (.invokevirtual 65, 3) := by decide +kernel
theorem dL_firstBeyond_8 : decode cL_firstBeyond 8 = .ok (.i2l, 1) := by decide +kernel
theorem dL_firstBeyond_9 : decode cL_firstBeyond 9 = .ok (.lastore, 1) := by decide +kernel
theorem dL_firstBeyond_10 : decode cL_firstBeyond 10 = .ok (.goto 11, 3) := by decide +kernel
theorem dL_firstBeyond_13 : decode cL_firstBeyond 13 = .ok (.astore 4, 2) := by decide +kernel
theorem dL_firstBeyond_15 : decode cL_firstBeyond 15 = .ok (.iconst 1, 1) := by decide +kernel
theorem dL_firstBeyond_16 : decode cL_firstBeyond 16 = .ok (.ireturn, 1) := by decide +kernel
theorem dL_firstBeyond_17 : decode cL_firstBeyond 17 = .ok (.astore 4, 2) := by decide +kernel
theorem dL_firstBeyond_19 : decode cL_firstBeyond 19 = .ok (.iconst 2, 1) := by decide +kernel
theorem dL_firstBeyond_20 : decode cL_firstBeyond 20 = .ok (.ireturn, 1) := by decide +kernel
theorem dL_firstBeyond_21 : decode cL_firstBeyond 21 = .ok (.iconst 0, 1) := by decide +kernel
theorem dL_firstBeyond_22 : decode cL_firstBeyond 22 = .ok (.ireturn, 1) := by decide +kernel
theorem dL_totalError_0 : decode cL_totalError 0 = .ok (.aload_n 2, 1) := by decide +kernel
theorem dL_totalError_1 : decode cL_totalError 1 = .ok (.iconst 0, 1) := by decide +kernel
theorem dL_totalError_2 : decode cL_totalError 2 = .ok (.aload_n 0, 1) := by decide +kernel
theorem dL_totalError_3 : decode cL_totalError 3 = .ok (.iload_n 1, 1) := by decide +kernel
theorem dL_totalError_4 : decode cL_totalError 4 = .ok (.invokevirtual 68, 3) := by decide +kernel
theorem dL_totalError_7 : decode cL_totalError 7 = .ok (.lastore, 1) := by decide +kernel
theorem dL_totalError_8 : decode cL_totalError 8 = .ok (.goto 6, 3) := by decide +kernel
theorem dL_totalError_11 : decode cL_totalError 11 = .ok (.astore_n 3, 1) := by decide +kernel
theorem dL_totalError_12 : decode cL_totalError 12 = .ok (.iconst 1, 1) := by decide +kernel
theorem dL_totalError_13 : decode cL_totalError 13 = .ok (.ireturn, 1) := by decide +kernel
theorem dL_totalError_14 : decode cL_totalError 14 = .ok (.iconst 0, 1) := by decide +kernel
theorem dL_totalError_15 : decode cL_totalError 15 = .ok (.ireturn, 1) := by decide +kernel
theorem dL_growth_0 : decode cL_growth 0 = .ok (.aload 4, 2) := by decide +kernel
theorem dL_growth_2 : decode cL_growth 2 = .ok (.iconst 0, 1) := by decide +kernel
theorem dL_growth_3 : decode cL_growth 3 = .ok (.aload_n 0, 1) := by decide +kernel
theorem dL_growth_4 : decode cL_growth 4 = .ok (.iload_n 1, 1) := by decide +kernel
theorem dL_growth_5 : decode cL_growth 5 = .ok (.iload_n 2, 1) := by decide +kernel
theorem dL_growth_6 : decode cL_growth 6 = .ok (.iload_n 3, 1) := by decide +kernel
theorem dL_growth_7 : decode cL_growth 7 = .ok (.invokevirtual 71, 3) := by decide +kernel
theorem dL_growth_10 : decode cL_growth 10 = .ok (.lastore, 1) := by decide +kernel
theorem dL_growth_11 : decode cL_growth 11 = .ok (.goto 11, 3) := by decide +kernel
theorem dL_growth_14 : decode cL_growth 14 = .ok (.astore 5, 2) := by decide +kernel
theorem dL_growth_16 : decode cL_growth 16 = .ok (.iconst 1, 1) := by decide +kernel
theorem dL_growth_17 : decode cL_growth 17 = .ok (.ireturn, 1) := by decide +kernel
theorem dL_growth_18 : decode cL_growth 18 = .ok (.astore 5, 2) := by decide +kernel
theorem dL_growth_20 : decode cL_growth 20 = .ok (.iconst 2, 1) := by decide +kernel
theorem dL_growth_21 : decode cL_growth 21 = .ok (.ireturn, 1) := by decide +kernel
theorem dL_growth_22 : decode cL_growth 22 = .ok (.iconst 0, 1) := by decide +kernel
theorem dL_growth_23 : decode cL_growth 23 = .ok (.ireturn, 1) := by decide +kernel
theorem dL_bestPair_0 : decode cL_bestPair 0 = .ok (.aload_n 3, 1) := by decide +kernel
theorem dL_bestPair_1 : decode cL_bestPair 1 = .ok (.iconst 0, 1) := by decide +kernel
theorem dL_bestPair_2 : decode cL_bestPair 2 = .ok (.aload_n 0, 1) := by decide +kernel
theorem dL_bestPair_3 : decode cL_bestPair 3 = .ok (.iload_n 1, 1) := by decide +kernel
theorem dL_bestPair_4 : decode cL_bestPair 4 = .ok (.iload_n 2, 1) := by decide +kernel
theorem dL_bestPair_5 : decode cL_bestPair 5 = .ok (.invokevirtual 75, 3) := by decide +kernel
theorem dL_bestPair_8 : decode cL_bestPair 8 = .ok (.i2l, 1) := by decide +kernel
theorem dL_bestPair_9 : decode cL_bestPair 9 = .ok (.lastore, 1) := by decide +kernel
theorem dL_bestPair_10 : decode cL_bestPair 10 = .ok (.goto 11, 3) := by decide +kernel
theorem dL_bestPair_13 : decode cL_bestPair 13 = .ok (.astore 4, 2) := by decide +kernel
theorem dL_bestPair_15 : decode cL_bestPair 15 = .ok (.iconst 1, 1) := by decide +kernel
theorem dL_bestPair_16 : decode cL_bestPair 16 = .ok (.ireturn, 1) := by decide +kernel
theorem dL_bestPair_17 : decode cL_bestPair 17 = .ok (.astore 4, 2) := by decide +kernel
theorem dL_bestPair_19 : decode cL_bestPair 19 = .ok (.iconst 2, 1) := by decide +kernel
theorem dL_bestPair_20 : decode cL_bestPair 20 = .ok (.ireturn, 1) := by decide +kernel
theorem dL_bestPair_21 : decode cL_bestPair 21 = .ok (.iconst 0, 1) := by decide +kernel
theorem dL_bestPair_22 : decode cL_bestPair 22 = .ok (.ireturn, 1) := by decide +kernel
theorem dL_bestTrain_0 : decode cL_bestTrain 0 = .ok (.aload_n 3, 1) := by decide +kernel
theorem dL_bestTrain_1 : decode cL_bestTrain 1 = .ok (.iconst 0, 1) := by decide +kernel
theorem dL_bestTrain_2 : decode cL_bestTrain 2 = .ok (.aload_n 0, 1) := by decide +kernel
theorem dL_bestTrain_3 : decode cL_bestTrain 3 = .ok (.iload_n 1, 1) := by decide +kernel
theorem dL_bestTrain_4 : decode cL_bestTrain 4 = .ok (.iload_n 2, 1) := by decide +kernel
theorem dL_bestTrain_5 : decode cL_bestTrain 5 = .ok (.invokevirtual 78, 3) := by decide +kernel
theorem dL_bestTrain_8 : decode cL_bestTrain 8 = .ok (.i2l, 1) := by decide +kernel
theorem dL_bestTrain_9 : decode cL_bestTrain 9 = .ok (.lastore, 1) := by decide +kernel
theorem dL_bestTrain_10 : decode cL_bestTrain 10 = .ok (.goto 11, 3) := by decide +kernel
theorem dL_bestTrain_13 : decode cL_bestTrain 13 = .ok (.astore 4, 2) := by decide +kernel
theorem dL_bestTrain_15 : decode cL_bestTrain 15 = .ok (.iconst 1, 1) := by decide +kernel
theorem dL_bestTrain_16 : decode cL_bestTrain 16 = .ok (.ireturn, 1) := by decide +kernel
theorem dL_bestTrain_17 : decode cL_bestTrain 17 = .ok (.astore 4, 2) := by decide +kernel
theorem dL_bestTrain_19 : decode cL_bestTrain 19 = .ok (.iconst 2, 1) := by decide +kernel
theorem dL_bestTrain_20 : decode cL_bestTrain 20 = .ok (.ireturn, 1) := by decide +kernel
theorem dL_bestTrain_21 : decode cL_bestTrain 21 = .ok (.iconst 0, 1) := by decide +kernel
theorem dL_bestTrain_22 : decode cL_bestTrain 22 = .ok (.ireturn, 1) := by decide +kernel
theorem dL_convergent_0 : decode cL_convergent 0 = .ok (.aload 4, 2) := by decide +kernel
theorem dL_convergent_2 : decode cL_convergent 2 = .ok (.iconst 0, 1) := by decide +kernel
theorem dL_convergent_3 : decode cL_convergent 3 = .ok (.aload_n 0, 1) := by decide +kernel
theorem dL_convergent_4 : decode cL_convergent 4 = .ok (.iload_n 1, 1) := by decide +kernel
theorem dL_convergent_5 : decode cL_convergent 5 = .ok (.iload_n 2, 1) := by decide +kernel
theorem dL_convergent_6 : decode cL_convergent 6 = .ok (.iload_n 3, 1) := by decide +kernel
theorem dL_convergent_7 : decode cL_convergent 7 = .ok (.invokevirtual 81, 3) := by decide +kernel
theorem dL_convergent_10 : decode cL_convergent 10 = .ok (.lastore, 1) := by decide +kernel
theorem dL_convergent_11 : decode cL_convergent 11 = .ok (.goto 11, 3) := by decide +kernel
theorem dL_convergent_14 : decode cL_convergent 14 = .ok (.astore 5, 2) := by decide +kernel
theorem dL_convergent_16 : decode cL_convergent 16 = .ok (.iconst 1, 1) := by decide +kernel
theorem dL_convergent_17 : decode cL_convergent 17 = .ok (.ireturn, 1) := by decide +kernel
theorem dL_convergent_18 : decode cL_convergent 18 = .ok (.astore 5, 2) := by decide +kernel
theorem dL_convergent_20 : decode cL_convergent 20 = .ok (.iconst 2, 1) := by decide +kernel
theorem dL_convergent_21 : decode cL_convergent 21 = .ok (.ireturn, 1) := by decide +kernel
theorem dL_convergent_22 : decode cL_convergent 22 = .ok (.iconst 0, 1) := by decide +kernel
theorem dL_convergent_23 : decode cL_convergent 23 = .ok (.ireturn, 1) := by decide +kernel
theorem dL_bestFraction_0 : decode cL_bestFraction 0 = .ok (.aload 4, 2) := by decide +kernel
theorem dL_bestFraction_2 : decode cL_bestFraction 2 = .ok (.iconst 0, 1) := by decide +kernel
theorem dL_bestFraction_3 : decode cL_bestFraction 3 = .ok (.aload_n 0, 1) := by decide +kernel
theorem dL_bestFraction_4 : decode cL_bestFraction 4 = .ok (.iload_n 1, 1) := by decide +kernel
theorem dL_bestFraction_5 : decode cL_bestFraction 5 = .ok (.iload_n 2, 1) := by decide +kernel
theorem dL_bestFraction_6 : decode cL_bestFraction 6 = .ok (.iload_n 3, 1) := by decide +kernel
theorem dL_bestFraction_7 : decode cL_bestFraction 7 = .ok (.invokevirtual 84, 3) := by decide +kernel
theorem dL_bestFraction_10 : decode cL_bestFraction 10 = .ok (.i2l, 1) := by decide +kernel
theorem dL_bestFraction_11 : decode cL_bestFraction 11 = .ok (.lastore, 1) := by decide +kernel
theorem dL_bestFraction_12 : decode cL_bestFraction 12 = .ok (.goto 11, 3) := by decide +kernel
theorem dL_bestFraction_15 : decode cL_bestFraction 15 = .ok (.astore 5, 2) := by decide +kernel
theorem dL_bestFraction_17 : decode cL_bestFraction 17 = .ok (.iconst 1, 1) := by decide +kernel
theorem dL_bestFraction_18 : decode cL_bestFraction 18 = .ok (.ireturn, 1) := by decide +kernel
theorem dL_bestFraction_19 : decode cL_bestFraction 19 = .ok (.astore 5, 2) := by decide +kernel
theorem dL_bestFraction_21 : decode cL_bestFraction 21 = .ok (.iconst 2, 1) := by decide +kernel
theorem dL_bestFraction_22 : decode cL_bestFraction 22 = .ok (.ireturn, 1) := by decide +kernel
theorem dL_bestFraction_23 : decode cL_bestFraction 23 = .ok (.iconst 0, 1) := by decide +kernel
theorem dL_bestFraction_24 : decode cL_bestFraction 24 = .ok (.ireturn, 1) := by decide +kernel
theorem dL_build_0 : decode cL_build 0 = .ok (.aload_n 2, 1) := by decide +kernel
theorem dL_build_1 : decode cL_build 1 = .ok (.iconst 0, 1) := by decide +kernel
theorem dL_build_2 : decode cL_build 2 = .ok (.aload_n 0, 1) := by decide +kernel
theorem dL_build_3 : decode cL_build 3 = .ok (.iload_n 1, 1) := by decide +kernel
theorem dL_build_4 : decode cL_build 4 = .ok (.invokevirtual 87, 3) := by decide +kernel
theorem dL_build_7 : decode cL_build 7 = .ok (.i2l, 1) := by decide +kernel
theorem dL_build_8 : decode cL_build 8 = .ok (.lastore, 1) := by decide +kernel
theorem dL_build_9 : decode cL_build 9 = .ok (.goto 9, 3) := by decide +kernel
theorem dL_build_12 : decode cL_build 12 = .ok (.astore_n 3, 1) := by decide +kernel
theorem dL_build_13 : decode cL_build 13 = .ok (.iconst 1, 1) := by decide +kernel
theorem dL_build_14 : decode cL_build 14 = .ok (.ireturn, 1) := by decide +kernel
theorem dL_build_15 : decode cL_build 15 = .ok (.astore_n 3, 1) := by decide +kernel
theorem dL_build_16 : decode cL_build 16 = .ok (.iconst 2, 1) := by decide +kernel
theorem dL_build_17 : decode cL_build 17 = .ok (.ireturn, 1) := by decide +kernel
theorem dL_build_18 : decode cL_build 18 = .ok (.iconst 0, 1) := by decide +kernel
theorem dL_build_19 : decode cL_build 19 = .ok (.ireturn, 1) := by decide +kernel
theorem dL_addPart_0 : decode cL_addPart 0 = .ok (.aload 5, 2) := by decide +kernel
theorem dL_addPart_2 : decode cL_addPart 2 = .ok (.iconst 0, 1) := by decide +kernel
theorem dL_addPart_3 : decode cL_addPart 3 = .ok (.aload_n 0, 1) := by decide +kernel
theorem dL_addPart_4 : decode cL_addPart 4 = .ok (.iload_n 1, 1) := by decide +kernel
theorem dL_addPart_5 : decode cL_addPart 5 = .ok (.iload_n 2, 1) := by decide +kernel
theorem dL_addPart_6 : decode cL_addPart 6 = .ok (.iload_n 3, 1) := by decide +kernel
theorem dL_addPart_7 : decode cL_addPart 7 = .ok (.iload 4, 2) := by decide +kernel
theorem dL_addPart_9 : decode cL_addPart 9 = .ok (.invokevirtual 92, 3) := by decide +kernel
theorem dL_addPart_12 : decode cL_addPart 12 = .ok (.i2l, 1) := by decide +kernel
theorem dL_addPart_13 : decode cL_addPart 13 = .ok (.lastore, 1) := by decide +kernel
theorem dL_addPart_14 : decode cL_addPart 14 = .ok (.goto 15, 3) := by decide +kernel
theorem dL_addPart_17 : decode cL_addPart 17 = .ok (.astore 6, 2) := by decide +kernel
theorem dL_addPart_19 : decode cL_addPart 19 = .ok (.iconst 1, 1) := by decide +kernel
theorem dL_addPart_20 : decode cL_addPart 20 = .ok (.ireturn, 1) := by decide +kernel
theorem dL_addPart_21 : decode cL_addPart 21 = .ok (.astore 6, 2) := by decide +kernel
theorem dL_addPart_23 : decode cL_addPart 23 = .ok (.iconst 2, 1) := by decide +kernel
theorem dL_addPart_24 : decode cL_addPart 24 = .ok (.ireturn, 1) := by decide +kernel
theorem dL_addPart_25 : decode cL_addPart 25 = .ok (.astore 6, 2) := by decide +kernel
theorem dL_addPart_27 : decode cL_addPart 27 = .ok (.iconst 3, 1) := by decide +kernel
theorem dL_addPart_28 : decode cL_addPart 28 = .ok (.ireturn, 1) := by decide +kernel
theorem dL_addPart_29 : decode cL_addPart 29 = .ok (.iconst 0, 1) := by decide +kernel
theorem dL_addPart_30 : decode cL_addPart 30 = .ok (.ireturn, 1) := by decide +kernel
theorem dL_removePart_0 : decode cL_removePart 0 = .ok (.aload_n 2, 1) := by decide +kernel
theorem dL_removePart_1 : decode cL_removePart 1 = .ok (.iconst 0, 1) := by decide +kernel
theorem dL_removePart_2 : decode cL_removePart 2 = .ok (.aload_n 0, 1) := by decide +kernel
theorem dL_removePart_3 : decode cL_removePart 3 = .ok (.iload_n 1, 1) := by decide +kernel
theorem dL_removePart_4 : decode cL_removePart 4 = .ok (.invokevirtual 96, 3) := by decide +kernel
theorem dL_removePart_7 : decode cL_removePart 7 = .ok (.i2l, 1) := by decide +kernel
theorem dL_removePart_8 : decode cL_removePart 8 = .ok (.lastore, 1) := by decide +kernel
theorem dL_removePart_9 : decode cL_removePart 9 = .ok (.goto 9, 3) := by decide +kernel
theorem dL_removePart_12 : decode cL_removePart 12 = .ok (.astore_n 3, 1) := by decide +kernel
theorem dL_removePart_13 : decode cL_removePart 13 = .ok (.iconst 1, 1) := by decide +kernel
theorem dL_removePart_14 : decode cL_removePart 14 = .ok (.ireturn, 1) := by decide +kernel
theorem dL_removePart_15 : decode cL_removePart 15 = .ok (.astore_n 3, 1) := by decide +kernel
theorem dL_removePart_16 : decode cL_removePart 16 = .ok (.iconst 2, 1) := by decide +kernel
theorem dL_removePart_17 : decode cL_removePart 17 = .ok (.ireturn, 1) := by decide +kernel
theorem dL_removePart_18 : decode cL_removePart 18 = .ok (.iconst 0, 1) := by decide +kernel
theorem dL_removePart_19 : decode cL_removePart 19 = .ok (.ireturn, 1) := by decide +kernel
theorem dL_addStock_0 : decode cL_addStock 0 = .ok (.aload_n 2, 1) := by decide +kernel
theorem dL_addStock_1 : decode cL_addStock 1 = .ok (.iconst 0, 1) := by decide +kernel
theorem dL_addStock_2 : decode cL_addStock 2 = .ok (.aload_n 0, 1) := by decide +kernel
theorem dL_addStock_3 : decode cL_addStock 3 = .ok (.iload_n 1, 1) := by decide +kernel
theorem dL_addStock_4 : decode cL_addStock 4 = .ok (.invokevirtual 99, 3) := by decide +kernel
theorem dL_addStock_7 : decode cL_addStock 7 = .ok (.i2l, 1) := by decide +kernel
theorem dL_addStock_8 : decode cL_addStock 8 = .ok (.lastore, 1) := by decide +kernel
theorem dL_addStock_9 : decode cL_addStock 9 = .ok (.goto 9, 3) := by decide +kernel
theorem dL_addStock_12 : decode cL_addStock 12 = .ok (.astore_n 3, 1) := by decide +kernel
theorem dL_addStock_13 : decode cL_addStock 13 = .ok (.iconst 1, 1) := by decide +kernel
theorem dL_addStock_14 : decode cL_addStock 14 = .ok (.ireturn, 1) := by decide +kernel
theorem dL_addStock_15 : decode cL_addStock 15 = .ok (.astore_n 3, 1) := by decide +kernel
theorem dL_addStock_16 : decode cL_addStock 16 = .ok (.iconst 2, 1) := by decide +kernel
theorem dL_addStock_17 : decode cL_addStock 17 = .ok (.ireturn, 1) := by decide +kernel
theorem dL_addStock_18 : decode cL_addStock 18 = .ok (.iconst 0, 1) := by decide +kernel
theorem dL_addStock_19 : decode cL_addStock 19 = .ok (.ireturn, 1) := by decide +kernel
theorem dL_setSlack_0 : decode cL_setSlack 0 = .ok (.aload_n 2, 1) := by decide +kernel
theorem dL_setSlack_1 : decode cL_setSlack 1 = .ok (.iconst 0, 1) := by decide +kernel
theorem dL_setSlack_2 : decode cL_setSlack 2 = .ok (.aload_n 0, 1) := by decide +kernel
theorem dL_setSlack_3 : decode cL_setSlack 3 = .ok (.iload_n 1, 1) := by decide +kernel
theorem dL_setSlack_4 : decode cL_setSlack 4 = .ok (.invokevirtual 102, 3) := by decide +kernel
theorem dL_setSlack_7 : decode cL_setSlack 7 = .ok (.i2l, 1) := by decide +kernel
theorem dL_setSlack_8 : decode cL_setSlack 8 = .ok (.lastore, 1) := by decide +kernel
theorem dL_setSlack_9 : decode cL_setSlack 9 = .ok (.goto 6, 3) := by decide +kernel
theorem dL_setSlack_12 : decode cL_setSlack 12 = .ok (.astore_n 3, 1) := by decide +kernel
theorem dL_setSlack_13 : decode cL_setSlack 13 = .ok (.iconst 1, 1) := by decide +kernel
theorem dL_setSlack_14 : decode cL_setSlack 14 = .ok (.ireturn, 1) := by decide +kernel
theorem dL_setSlack_15 : decode cL_setSlack 15 = .ok (.iconst 0, 1) := by decide +kernel
theorem dL_setSlack_16 : decode cL_setSlack 16 = .ok (.ireturn, 1) := by decide +kernel
theorem dL_crank_0 : decode cL_crank 0 = .ok (.aload_n 2, 1) := by decide +kernel
theorem dL_crank_1 : decode cL_crank 1 = .ok (.iconst 0, 1) := by decide +kernel
theorem dL_crank_2 : decode cL_crank 2 = .ok (.aload_n 0, 1) := by decide +kernel
theorem dL_crank_3 : decode cL_crank 3 = .ok (.iload_n 1, 1) := by decide +kernel
theorem dL_crank_4 : decode cL_crank 4 = .ok (.invokevirtual 105, 3) := by decide +kernel
theorem dL_crank_7 : decode cL_crank 7 = .ok (.i2l, 1) := by decide +kernel
theorem dL_crank_8 : decode cL_crank 8 = .ok (.lastore, 1) := by decide +kernel
theorem dL_crank_9 : decode cL_crank 9 = .ok (.goto 6, 3) := by decide +kernel
theorem dL_crank_12 : decode cL_crank 12 = .ok (.astore_n 3, 1) := by decide +kernel
theorem dL_crank_13 : decode cL_crank 13 = .ok (.iconst 1, 1) := by decide +kernel
theorem dL_crank_14 : decode cL_crank 14 = .ok (.ireturn, 1) := by decide +kernel
theorem dL_crank_15 : decode cL_crank 15 = .ok (.iconst 0, 1) := by decide +kernel
theorem dL_crank_16 : decode cL_crank 16 = .ok (.ireturn, 1) := by decide +kernel
theorem dL_backlash_0 : decode cL_backlash 0 = .ok (.aload_n 2, 1) := by decide +kernel
theorem dL_backlash_1 : decode cL_backlash 1 = .ok (.iconst 0, 1) := by decide +kernel
theorem dL_backlash_2 : decode cL_backlash 2 = .ok (.aload_n 0, 1) := by decide +kernel
theorem dL_backlash_3 : decode cL_backlash 3 = .ok (.iload_n 1, 1) := by decide +kernel
theorem dL_backlash_4 : decode cL_backlash 4 = .ok (.invokevirtual 108, 3) := by decide +kernel
theorem dL_backlash_7 : decode cL_backlash 7 = .ok (.i2l, 1) := by decide +kernel
theorem dL_backlash_8 : decode cL_backlash 8 = .ok (.lastore, 1) := by decide +kernel
theorem dL_backlash_9 : decode cL_backlash 9 = .ok (.goto 6, 3) := by decide +kernel
theorem dL_backlash_12 : decode cL_backlash 12 = .ok (.astore_n 3, 1) := by decide +kernel
theorem dL_backlash_13 : decode cL_backlash 13 = .ok (.iconst 1, 1) := by decide +kernel
theorem dL_backlash_14 : decode cL_backlash 14 = .ok (.ireturn, 1) := by decide +kernel
theorem dL_backlash_15 : decode cL_backlash 15 = .ok (.iconst 0, 1) := by decide +kernel
theorem dL_backlash_16 : decode cL_backlash 16 = .ok (.ireturn, 1) := by decide +kernel
theorem dL_lag_0 : decode cL_lag 0 = .ok (.aload_n 2, 1) := by decide +kernel
theorem dL_lag_1 : decode cL_lag 1 = .ok (.iconst 0, 1) := by decide +kernel
theorem dL_lag_2 : decode cL_lag 2 = .ok (.aload_n 0, 1) := by decide +kernel
theorem dL_lag_3 : decode cL_lag 3 = .ok (.iload_n 1, 1) := by decide +kernel
theorem dL_lag_4 : decode cL_lag 4 = .ok (.invokevirtual 111, 3) := by decide +kernel
theorem dL_lag_7 : decode cL_lag 7 = .ok (.i2l, 1) := by decide +kernel
theorem dL_lag_8 : decode cL_lag 8 = .ok (.lastore, 1) := by decide +kernel
theorem dL_lag_9 : decode cL_lag 9 = .ok (.goto 6, 3) := by decide +kernel
theorem dL_lag_12 : decode cL_lag 12 = .ok (.astore_n 3, 1) := by decide +kernel
theorem dL_lag_13 : decode cL_lag 13 = .ok (.iconst 1, 1) := by decide +kernel
theorem dL_lag_14 : decode cL_lag 14 = .ok (.ireturn, 1) := by decide +kernel
theorem dL_lag_15 : decode cL_lag 15 = .ok (.iconst 0, 1) := by decide +kernel
theorem dL_lag_16 : decode cL_lag 16 = .ok (.ireturn, 1) := by decide +kernel
theorem dL_shown_0 : decode cL_shown 0 = .ok (.aload_n 2, 1) := by decide +kernel
theorem dL_shown_1 : decode cL_shown 1 = .ok (.iconst 0, 1) := by decide +kernel
theorem dL_shown_2 : decode cL_shown 2 = .ok (.aload_n 0, 1) := by decide +kernel
theorem dL_shown_3 : decode cL_shown 3 = .ok (.iload_n 1, 1) := by decide +kernel
theorem dL_shown_4 : decode cL_shown 4 = .ok (.invokevirtual 114, 3) := by decide +kernel
theorem dL_shown_7 : decode cL_shown 7 = .ok (.i2l, 1) := by decide +kernel
theorem dL_shown_8 : decode cL_shown 8 = .ok (.lastore, 1) := by decide +kernel
theorem dL_shown_9 : decode cL_shown 9 = .ok (.goto 6, 3) := by decide +kernel
theorem dL_shown_12 : decode cL_shown 12 = .ok (.astore_n 3, 1) := by decide +kernel
theorem dL_shown_13 : decode cL_shown 13 = .ok (.iconst 1, 1) := by decide +kernel
theorem dL_shown_14 : decode cL_shown 14 = .ok (.ireturn, 1) := by decide +kernel
theorem dL_shown_15 : decode cL_shown 15 = .ok (.iconst 0, 1) := by decide +kernel
theorem dL_shown_16 : decode cL_shown 16 = .ok (.ireturn, 1) := by decide +kernel
theorem dL_missing_0 : decode cL_missing 0 = .ok (.aload_n 2, 1) := by decide +kernel
theorem dL_missing_1 : decode cL_missing 1 = .ok (.iconst 0, 1) := by decide +kernel
theorem dL_missing_2 : decode cL_missing 2 = .ok (.aload_n 0, 1) := by decide +kernel
theorem dL_missing_3 : decode cL_missing 3 = .ok (.iload_n 1, 1) := by decide +kernel
theorem dL_missing_4 : decode cL_missing 4 = .ok (.invokevirtual 117, 3) := by decide +kernel
theorem dL_missing_7 : decode cL_missing 7 = .ok (.i2l, 1) := by decide +kernel
theorem dL_missing_8 : decode cL_missing 8 = .ok (.lastore, 1) := by decide +kernel
theorem dL_missing_9 : decode cL_missing 9 = .ok (.goto 6, 3) := by decide +kernel
theorem dL_missing_12 : decode cL_missing 12 = .ok (.astore_n 3, 1) := by decide +kernel
theorem dL_missing_13 : decode cL_missing 13 = .ok (.iconst 1, 1) := by decide +kernel
theorem dL_missing_14 : decode cL_missing 14 = .ok (.ireturn, 1) := by decide +kernel
theorem dL_missing_15 : decode cL_missing 15 = .ok (.iconst 0, 1) := by decide +kernel
theorem dL_missing_16 : decode cL_missing 16 = .ok (.ireturn, 1) := by decide +kernel
theorem dL_nextMeeting_0 : decode cL_nextMeeting 0 = .ok (.aload 5, 2) := by decide +kernel
theorem dL_nextMeeting_2 : decode cL_nextMeeting 2 = .ok (.iconst 0, 1) := by decide +kernel
theorem dL_nextMeeting_3 : decode cL_nextMeeting 3 = .ok (.aload_n 0, 1) := by decide +kernel
theorem dL_nextMeeting_4 : decode cL_nextMeeting 4 = .ok (.iload_n 1, 1) := by decide +kernel
theorem dL_nextMeeting_5 : decode cL_nextMeeting 5 = .ok (.iload_n 2, 1) := by decide +kernel
theorem dL_nextMeeting_6 : decode cL_nextMeeting 6 = .ok (.iload_n 3, 1) := by decide +kernel
theorem dL_nextMeeting_7 : decode cL_nextMeeting 7 = .ok (.iload 4, 2) := by decide +kernel
theorem dL_nextMeeting_9 : decode cL_nextMeeting 9 = .ok (.invokevirtual 120, 3) := by decide +kernel
theorem dL_nextMeeting_12 : decode cL_nextMeeting 12 = .ok (.i2l, 1) := by decide +kernel
theorem dL_nextMeeting_13 : decode cL_nextMeeting 13 = .ok (.lastore, 1) := by decide +kernel
theorem dL_nextMeeting_14 : decode cL_nextMeeting 14 = .ok (.goto 11, 3) := by decide +kernel
theorem dL_nextMeeting_17 : decode cL_nextMeeting 17 = .ok (.astore 6, 2) := by decide +kernel
theorem dL_nextMeeting_19 : decode cL_nextMeeting 19 = .ok (.iconst 1, 1) := by decide +kernel
theorem dL_nextMeeting_20 : decode cL_nextMeeting 20 = .ok (.ireturn, 1) := by decide +kernel
theorem dL_nextMeeting_21 : decode cL_nextMeeting 21 = .ok (.astore 6, 2) := by decide +kernel
theorem dL_nextMeeting_23 : decode cL_nextMeeting 23 = .ok (.iconst 2, 1) := by decide +kernel
theorem dL_nextMeeting_24 : decode cL_nextMeeting 24 = .ok (.ireturn, 1) := by decide +kernel
theorem dL_nextMeeting_25 : decode cL_nextMeeting 25 = .ok (.iconst 0, 1) := by decide +kernel
theorem dL_nextMeeting_26 : decode cL_nextMeeting 26 = .ok (.ireturn, 1) := by decide +kernel
theorem dL_accuracy_0 : decode cL_accuracy 0 = .ok (.aload_n 2, 1) := by decide +kernel
theorem dL_accuracy_1 : decode cL_accuracy 1 = .ok (.iconst 0, 1) := by decide +kernel
theorem dL_accuracy_2 : decode cL_accuracy 2 = .ok (.aload_n 0, 1) := by decide +kernel
theorem dL_accuracy_3 : decode cL_accuracy 3 = .ok (.iload_n 1, 1) := by decide +kernel
theorem dL_accuracy_4 : decode cL_accuracy 4 = .ok (.invokevirtual 123, 3) := by decide +kernel
theorem dL_accuracy_7 : decode cL_accuracy 7 = .ok (.dastore, 1) := by decide +kernel
theorem dL_accuracy_8 : decode cL_accuracy 8 = .ok (.goto 6, 3) := by decide +kernel
theorem dL_accuracy_11 : decode cL_accuracy 11 = .ok (.astore_n 3, 1) := by decide +kernel
theorem dL_accuracy_12 : decode cL_accuracy 12 = .ok (.iconst 1, 1) := by decide +kernel
theorem dL_accuracy_13 : decode cL_accuracy 13 = .ok (.ireturn, 1) := by decide +kernel
theorem dL_accuracy_14 : decode cL_accuracy 14 = .ok (.iconst 0, 1) := by decide +kernel
theorem dL_accuracy_15 : decode cL_accuracy 15 = .ok (.ireturn, 1) := by decide +kernel
theorem dL_improve_0 : decode cL_improve 0 = .ok (.aload_n 2, 1) := by decide +kernel
theorem dL_improve_1 : decode cL_improve 1 = .ok (.iconst 0, 1) := by decide +kernel
theorem dL_improve_2 : decode cL_improve 2 = .ok (.aload_n 0, 1) := by decide +kernel
theorem dL_improve_3 : decode cL_improve 3 = .ok (.iload_n 1, 1) := by decide +kernel
theorem dL_improve_4 : decode cL_improve 4 = .ok (.invokevirtual 127, 3) := by decide +kernel
theorem dL_improve_7 : decode cL_improve 7 = .ok (.i2l, 1) := by decide +kernel
theorem dL_improve_8 : decode cL_improve 8 = .ok (.lastore, 1) := by decide +kernel
theorem dL_improve_9 : decode cL_improve 9 = .ok (.goto 6, 3) := by decide +kernel
theorem dL_improve_12 : decode cL_improve 12 = .ok (.astore_n 3, 1) := by decide +kernel
theorem dL_improve_13 : decode cL_improve 13 = .ok (.iconst 1, 1) := by decide +kernel
theorem dL_improve_14 : decode cL_improve 14 = .ok (.ireturn, 1) := by decide +kernel
theorem dL_improve_15 : decode cL_improve 15 = .ok (.iconst 0, 1) := by decide +kernel
theorem dL_improve_16 : decode cL_improve 16 = .ok (.ireturn, 1) := by decide +kernel
theorem dL_swapTrains_0 : decode cL_swapTrains 0 = .ok (.aload_n 3, 1) := by decide +kernel
theorem dL_swapTrains_1 : decode cL_swapTrains 1 = .ok (.iconst 0, 1) := by decide +kernel
theorem dL_swapTrains_2 : decode cL_swapTrains 2 = .ok (.aload_n 0, 1) := by decide +kernel
theorem dL_swapTrains_3 : decode cL_swapTrains 3 = .ok (.iload_n 1, 1) := by decide +kernel
theorem dL_swapTrains_4 : decode cL_swapTrains 4 = .ok (.iload_n 2, 1) := by decide +kernel
theorem dL_swapTrains_5 : decode cL_swapTrains 5 = .ok (.invokevirtual 130, 3) := by decide +kernel
theorem dL_swapTrains_8 : decode cL_swapTrains 8 = .ok (.i2l, 1) := by decide +kernel
theorem dL_swapTrains_9 : decode cL_swapTrains 9 = .ok (.lastore, 1) := by decide +kernel
theorem dL_swapTrains_10 : decode cL_swapTrains 10 = .ok (.goto 11, 3) := by decide +kernel
theorem dL_swapTrains_13 : decode cL_swapTrains 13 = .ok (.astore 4, 2) := by decide +kernel
theorem dL_swapTrains_15 : decode cL_swapTrains 15 = .ok (.iconst 1, 1) := by decide +kernel
theorem dL_swapTrains_16 : decode cL_swapTrains 16 = .ok (.ireturn, 1) := by decide +kernel
theorem dL_swapTrains_17 : decode cL_swapTrains 17 = .ok (.astore 4, 2) := by decide +kernel
theorem dL_swapTrains_19 : decode cL_swapTrains 19 = .ok (.iconst 2, 1) := by decide +kernel
theorem dL_swapTrains_20 : decode cL_swapTrains 20 = .ok (.ireturn, 1) := by decide +kernel
theorem dL_swapTrains_21 : decode cL_swapTrains 21 = .ok (.iconst 0, 1) := by decide +kernel
theorem dL_swapTrains_22 : decode cL_swapTrains 22 = .ok (.ireturn, 1) := by decide +kernel
theorem dL_copyTrain_0 : decode cL_copyTrain 0 = .ok (.aload_n 3, 1) := by decide +kernel
theorem dL_copyTrain_1 : decode cL_copyTrain 1 = .ok (.iconst 0, 1) := by decide +kernel
theorem dL_copyTrain_2 : decode cL_copyTrain 2 = .ok (.aload_n 0, 1) := by decide +kernel
theorem dL_copyTrain_3 : decode cL_copyTrain 3 = .ok (.iload_n 1, 1) := by decide +kernel
theorem dL_copyTrain_4 : decode cL_copyTrain 4 = .ok (.iload_n 2, 1) := by decide +kernel
theorem dL_copyTrain_5 : decode cL_copyTrain 5 = .ok (.invokevirtual 133, 3) := by decide +kernel
theorem dL_copyTrain_8 : decode cL_copyTrain 8 = .ok (.i2l, 1) := by decide +kernel
theorem dL_copyTrain_9 : decode cL_copyTrain 9 = .ok (.lastore, 1) := by decide +kernel
theorem dL_copyTrain_10 : decode cL_copyTrain 10 = .ok (.goto 11, 3) := by decide +kernel
theorem dL_copyTrain_13 : decode cL_copyTrain 13 = .ok (.astore 4, 2) := by decide +kernel
theorem dL_copyTrain_15 : decode cL_copyTrain 15 = .ok (.iconst 1, 1) := by decide +kernel
theorem dL_copyTrain_16 : decode cL_copyTrain 16 = .ok (.ireturn, 1) := by decide +kernel
theorem dL_copyTrain_17 : decode cL_copyTrain 17 = .ok (.astore 4, 2) := by decide +kernel
theorem dL_copyTrain_19 : decode cL_copyTrain 19 = .ok (.iconst 2, 1) := by decide +kernel
theorem dL_copyTrain_20 : decode cL_copyTrain 20 = .ok (.ireturn, 1) := by decide +kernel
theorem dL_copyTrain_21 : decode cL_copyTrain 21 = .ok (.iconst 0, 1) := by decide +kernel
theorem dL_copyTrain_22 : decode cL_copyTrain 22 = .ok (.ireturn, 1) := by decide +kernel
theorem dL_worstYear_0 : decode cL_worstYear 0 = .ok (.aload 4, 2) := by decide +kernel
theorem dL_worstYear_2 : decode cL_worstYear 2 = .ok (.iconst 0, 1) := by decide +kernel
theorem dL_worstYear_3 : decode cL_worstYear 3 = .ok (.aload_n 0, 1) := by decide +kernel
theorem dL_worstYear_4 : decode cL_worstYear 4 = .ok (.iload_n 1, 1) := by decide +kernel
theorem dL_worstYear_5 : decode cL_worstYear 5 = .ok (.iload_n 2, 1) := by decide +kernel
theorem dL_worstYear_6 : decode cL_worstYear 6 = .ok (.iload_n 3, 1) := by decide +kernel
theorem dL_worstYear_7 : decode cL_worstYear 7 = .ok (.invokevirtual 136, 3) := by decide +kernel
theorem dL_worstYear_10 : decode cL_worstYear 10 = .ok (.i2l, 1) := by decide +kernel
theorem dL_worstYear_11 : decode cL_worstYear 11 = .ok (.lastore, 1) := by decide +kernel
theorem dL_worstYear_12 : decode cL_worstYear 12 = .ok (.goto 11, 3) := by decide +kernel
theorem dL_worstYear_15 : decode cL_worstYear 15 = .ok (.astore 5, 2) := by decide +kernel
theorem dL_worstYear_17 : decode cL_worstYear 17 = .ok (.iconst 1, 1) := by decide +kernel
theorem dL_worstYear_18 : decode cL_worstYear 18 = .ok (.ireturn, 1) := by decide +kernel
theorem dL_worstYear_19 : decode cL_worstYear 19 = .ok (.astore 5, 2) := by decide +kernel
theorem dL_worstYear_21 : decode cL_worstYear 21 = .ok (.iconst 2, 1) := by decide +kernel
theorem dL_worstYear_22 : decode cL_worstYear 22 = .ok (.ireturn, 1) := by decide +kernel
theorem dL_worstYear_23 : decode cL_worstYear 23 = .ok (.iconst 0, 1) := by decide +kernel
theorem dL_worstYear_24 : decode cL_worstYear 24 = .ok (.ireturn, 1) := by decide +kernel
theorem dL_revolutions_0 : decode cL_revolutions 0 = .ok (.aload_n 3, 1) := by decide +kernel
theorem dL_revolutions_1 : decode cL_revolutions 1 = .ok (.iconst 0, 1) := by decide +kernel
theorem dL_revolutions_2 : decode cL_revolutions 2 = .ok (.aload_n 0, 1) := by decide +kernel
theorem dL_revolutions_3 : decode cL_revolutions 3 = .ok (.iload_n 1, 1) := by decide +kernel
theorem dL_revolutions_4 : decode cL_revolutions 4 = .ok (.iload_n 2, 1) := by decide +kernel
theorem dL_revolutions_5 : decode cL_revolutions 5 = .ok (.invokevirtual 139, 3) := by decide +kernel
theorem dL_revolutions_8 : decode cL_revolutions 8 = .ok (.lastore, 1) := by decide +kernel
theorem dL_revolutions_9 : decode cL_revolutions 9 = .ok (.goto 11, 3) := by decide +kernel
theorem dL_revolutions_12 : decode cL_revolutions 12 = .ok (.astore 4, 2) := by decide +kernel
theorem dL_revolutions_14 : decode cL_revolutions 14 = .ok (.iconst 1, 1) := by decide +kernel
theorem dL_revolutions_15 : decode cL_revolutions 15 = .ok (.ireturn, 1) := by decide +kernel
theorem dL_revolutions_16 : decode cL_revolutions 16 = .ok (.astore 4, 2) := by decide +kernel
theorem dL_revolutions_18 : decode cL_revolutions 18 = .ok (.iconst 2, 1) := by decide +kernel
theorem dL_revolutions_19 : decode cL_revolutions 19 = .ok (.ireturn, 1) := by decide +kernel
theorem dL_revolutions_20 : decode cL_revolutions 20 = .ok (.iconst 0, 1) := by decide +kernel
theorem dL_revolutions_21 : decode cL_revolutions 21 = .ok (.ireturn, 1) := by decide +kernel
theorem dL_leapYears_0 : decode cL_leapYears 0 = .ok (.aload_n 3, 1) := by decide +kernel
theorem dL_leapYears_1 : decode cL_leapYears 1 = .ok (.iconst 0, 1) := by decide +kernel
theorem dL_leapYears_2 : decode cL_leapYears 2 = .ok (.aload_n 0, 1) := by decide +kernel
theorem dL_leapYears_3 : decode cL_leapYears 3 = .ok (.iload_n 1, 1) := by decide +kernel
theorem dL_leapYears_4 : decode cL_leapYears 4 = .ok (.iload_n 2, 1) := by decide +kernel
theorem dL_leapYears_5 : decode cL_leapYears 5 = .ok (.invokevirtual 142, 3) := by decide +kernel
theorem dL_leapYears_8 : decode cL_leapYears 8 = .ok (.i2l, 1) := by decide +kernel
theorem dL_leapYears_9 : decode cL_leapYears 9 = .ok (.lastore, 1) := by decide +kernel
theorem dL_leapYears_10 : decode cL_leapYears 10 = .ok (.goto 7, 3) := by decide +kernel
theorem dL_leapYears_13 : decode cL_leapYears 13 = .ok (.astore 4, 2) := by decide +kernel
theorem dL_leapYears_15 : decode cL_leapYears 15 = .ok (.iconst 1, 1) := by decide +kernel
theorem dL_leapYears_16 : decode cL_leapYears 16 = .ok (.ireturn, 1) := by decide +kernel
theorem dL_leapYears_17 : decode cL_leapYears 17 = .ok (.iconst 0, 1) := by decide +kernel
theorem dL_leapYears_18 : decode cL_leapYears 18 = .ok (.ireturn, 1) := by decide +kernel
theorem dL_meetingTime_0 : decode cL_meetingTime 0 = .ok (.aload 4, 2) := by decide +kernel
theorem dL_meetingTime_2 : decode cL_meetingTime 2 = .ok (.iconst 0, 1) := by decide +kernel
theorem dL_meetingTime_3 : decode cL_meetingTime 3 = .ok (.aload_n 0, 1) := by decide +kernel
theorem dL_meetingTime_4 : decode cL_meetingTime 4 = .ok (.iload_n 1, 1) := by decide +kernel
theorem dL_meetingTime_5 : decode cL_meetingTime 5 = .ok (.iload_n 2, 1) := by decide +kernel
theorem dL_meetingTime_6 : decode cL_meetingTime 6 = .ok (.iload_n 3, 1) := by decide +kernel
theorem dL_meetingTime_7 : decode cL_meetingTime 7 = .ok (.invokevirtual 145, 3) := by decide +kernel
theorem dL_meetingTime_10 : decode cL_meetingTime 10 = .ok (.lastore, 1) := by decide +kernel
theorem dL_meetingTime_11 : decode cL_meetingTime 11 = .ok (.goto 11, 3) := by decide +kernel
theorem dL_meetingTime_14 : decode cL_meetingTime 14 = .ok (.astore 5, 2) := by decide +kernel
theorem dL_meetingTime_16 : decode cL_meetingTime 16 = .ok (.iconst 1, 1) := by decide +kernel
theorem dL_meetingTime_17 : decode cL_meetingTime 17 = .ok (.ireturn, 1) := by decide +kernel
theorem dL_meetingTime_18 : decode cL_meetingTime 18 = .ok (.astore 5, 2) := by decide +kernel
theorem dL_meetingTime_20 : decode cL_meetingTime 20 = .ok (.iconst 2, 1) := by decide +kernel
theorem dL_meetingTime_21 : decode cL_meetingTime 21 = .ok (.ireturn, 1) := by decide +kernel
theorem dL_meetingTime_22 : decode cL_meetingTime 22 = .ok (.iconst 0, 1) := by decide +kernel
theorem dL_meetingTime_23 : decode cL_meetingTime 23 = .ok (.ireturn, 1) := by decide +kernel
theorem dL_aligned_0 : decode cL_aligned 0 = .ok (.aload 4, 2) := by decide +kernel
theorem dL_aligned_2 : decode cL_aligned 2 = .ok (.iconst 0, 1) := by decide +kernel
theorem dL_aligned_3 : decode cL_aligned 3 = .ok (.aload_n 0, 1) := by decide +kernel
theorem dL_aligned_4 : decode cL_aligned 4 = .ok (.iload_n 1, 1) := by decide +kernel
theorem dL_aligned_5 : decode cL_aligned 5 = .ok (.iload_n 2, 1) := by decide +kernel
theorem dL_aligned_6 : decode cL_aligned 6 = .ok (.iload_n 3, 1) := by decide +kernel
theorem dL_aligned_7 : decode cL_aligned 7 = .ok (.invokevirtual 148, 3) := by decide +kernel
theorem dL_aligned_10 : decode cL_aligned 10 = .ok (.i2l, 1) := by decide +kernel
theorem dL_aligned_11 : decode cL_aligned 11 = .ok (.lastore, 1) := by decide +kernel
theorem dL_aligned_12 : decode cL_aligned 12 = .ok (.goto 11, 3) := by decide +kernel
theorem dL_aligned_15 : decode cL_aligned 15 = .ok (.astore 5, 2) := by decide +kernel
theorem dL_aligned_17 : decode cL_aligned 17 = .ok (.iconst 1, 1) := by decide +kernel
theorem dL_aligned_18 : decode cL_aligned 18 = .ok (.ireturn, 1) := by decide +kernel
theorem dL_aligned_19 : decode cL_aligned 19 = .ok (.astore 5, 2) := by decide +kernel
theorem dL_aligned_21 : decode cL_aligned 21 = .ok (.iconst 2, 1) := by decide +kernel
theorem dL_aligned_22 : decode cL_aligned 22 = .ok (.ireturn, 1) := by decide +kernel
theorem dL_aligned_23 : decode cL_aligned 23 = .ok (.iconst 0, 1) := by decide +kernel
theorem dL_aligned_24 : decode cL_aligned 24 = .ok (.ireturn, 1) := by decide +kernel
theorem dL_goodShare_0 : decode cL_goodShare 0 = .ok (.aload_n 3, 1) := by decide +kernel
theorem dL_goodShare_1 : decode cL_goodShare 1 = .ok (.iconst 0, 1) := by decide +kernel
theorem dL_goodShare_2 : decode cL_goodShare 2 = .ok (.aload_n 0, 1) := by decide +kernel
theorem dL_goodShare_3 : decode cL_goodShare 3 = .ok (.iload_n 1, 1) := by decide +kernel
theorem dL_goodShare_4 : decode cL_goodShare 4 = .ok (.iload_n 2, 1) := by decide +kernel
theorem dL_goodShare_5 : decode cL_goodShare 5 = .ok (.invokevirtual 151, 3) := by decide +kernel
theorem dL_goodShare_8 : decode cL_goodShare 8 = .ok (.f2d, 1) := by decide +kernel
theorem dL_goodShare_9 : decode cL_goodShare 9 = .ok (.dastore, 1) := by decide +kernel
theorem dL_goodShare_10 : decode cL_goodShare 10 = .ok (.goto 7, 3) := by decide +kernel
theorem dL_goodShare_13 : decode cL_goodShare 13 = .ok (.astore 4, 2) := by decide +kernel
theorem dL_goodShare_15 : decode cL_goodShare 15 = .ok (.iconst 1, 1) := by decide +kernel
theorem dL_goodShare_16 : decode cL_goodShare 16 = .ok (.ireturn, 1) := by decide +kernel
theorem dL_goodShare_17 : decode cL_goodShare 17 = .ok (.iconst 0, 1) := by decide +kernel
theorem dL_goodShare_18 : decode cL_goodShare 18 = .ok (.ireturn, 1) := by decide +kernel
theorem dL_printErrors_0 : decode cL_printErrors 0 = .ok (.aload 5, 2) := by decide +kernel
theorem dL_printErrors_2 : decode cL_printErrors 2 = .ok (.iconst 0, 1) := by decide +kernel
theorem dL_printErrors_3 : decode cL_printErrors 3 = .ok (.aload_n 0, 1) := by decide +kernel
theorem dL_printErrors_4 : decode cL_printErrors 4 = .ok (.iload_n 1, 1) := by decide +kernel
theorem dL_printErrors_5 : decode cL_printErrors 5 = .ok (.iload_n 2, 1) := by decide +kernel
theorem dL_printErrors_6 : decode cL_printErrors 6 = .ok (.iload_n 3, 1) := by decide +kernel
theorem dL_printErrors_7 : decode cL_printErrors 7 = .ok (.iload 4, 2) := by decide +kernel
theorem dL_printErrors_9 : decode cL_printErrors 9 = .ok (.invokevirtual 155, 3) := by decide +kernel
theorem dL_printErrors_12 : decode cL_printErrors 12 = .ok (.i2l, 1) := by decide +kernel
theorem dL_printErrors_13 : decode cL_printErrors 13 = .ok (.lastore, 1) := by decide +kernel
theorem dL_printErrors_14 : decode cL_printErrors 14 = .ok (.goto 11, 3) := by decide +kernel
theorem dL_printErrors_17 : decode cL_printErrors 17 = .ok (.astore 6, 2) := by decide +kernel
theorem dL_printErrors_19 : decode cL_printErrors 19 = .ok (.iconst 1, 1) := by decide +kernel
theorem dL_printErrors_20 : decode cL_printErrors 20 = .ok (.ireturn, 1) := by decide +kernel
theorem dL_printErrors_21 : decode cL_printErrors 21 = .ok (.astore 6, 2) := by decide +kernel
theorem dL_printErrors_23 : decode cL_printErrors 23 = .ok (.iconst 2, 1) := by decide +kernel
theorem dL_printErrors_24 : decode cL_printErrors 24 = .ok (.ireturn, 1) := by decide +kernel
theorem dL_printErrors_25 : decode cL_printErrors 25 = .ok (.iconst 0, 1) := by decide +kernel
theorem dL_printErrors_26 : decode cL_printErrors 26 = .ok (.ireturn, 1) := by decide +kernel
theorem dL_report_0 : decode cL_report 0 = .ok (.aload_n 2, 1) := by decide +kernel
theorem dL_report_1 : decode cL_report 1 = .ok (.iconst 0, 1) := by decide +kernel
theorem dL_report_2 : decode cL_report 2 = .ok (.aload_n 0, 1) := by decide +kernel
theorem dL_report_3 : decode cL_report 3 = .ok (.iload_n 1, 1) := by decide +kernel
theorem dL_report_4 : decode cL_report 4 = .ok (.invokevirtual 158, 3) := by decide +kernel
theorem dL_report_7 : decode cL_report 7 = .ok (.i2l, 1) := by decide +kernel
theorem dL_report_8 : decode cL_report 8 = .ok (.lastore, 1) := by decide +kernel
theorem dL_report_9 : decode cL_report 9 = .ok (.goto 6, 3) := by decide +kernel
theorem dL_report_12 : decode cL_report 12 = .ok (.astore_n 3, 1) := by decide +kernel
theorem dL_report_13 : decode cL_report 13 = .ok (.iconst 1, 1) := by decide +kernel
theorem dL_report_14 : decode cL_report 14 = .ok (.ireturn, 1) := by decide +kernel
theorem dL_report_15 : decode cL_report 15 = .ok (.iconst 0, 1) := by decide +kernel
theorem dL_report_16 : decode cL_report 16 = .ok (.ireturn, 1) := by decide +kernel
theorem dL_printTrain_0 : decode cL_printTrain 0 = .ok (.aload_n 2, 1) := by decide +kernel
theorem dL_printTrain_1 : decode cL_printTrain 1 = .ok (.iconst 0, 1) := by decide +kernel
theorem dL_printTrain_2 : decode cL_printTrain 2 = .ok (.aload_n 0, 1) := by decide +kernel
theorem dL_printTrain_3 : decode cL_printTrain 3 = .ok (.iload_n 1, 1) := by decide +kernel
theorem dL_printTrain_4 : decode cL_printTrain 4 = .ok (.invokevirtual 161, 3) := by decide +kernel
theorem dL_printTrain_7 : decode cL_printTrain 7 = .ok (.i2l, 1) := by decide +kernel
theorem dL_printTrain_8 : decode cL_printTrain 8 = .ok (.lastore, 1) := by decide +kernel
theorem dL_printTrain_9 : decode cL_printTrain 9 = .ok (.goto 6, 3) := by decide +kernel
theorem dL_printTrain_12 : decode cL_printTrain 12 = .ok (.astore_n 3, 1) := by decide +kernel
theorem dL_printTrain_13 : decode cL_printTrain 13 = .ok (.iconst 1, 1) := by decide +kernel
theorem dL_printTrain_14 : decode cL_printTrain 14 = .ok (.ireturn, 1) := by decide +kernel
theorem dL_printTrain_15 : decode cL_printTrain 15 = .ok (.iconst 0, 1) := by decide +kernel
theorem dL_printTrain_16 : decode cL_printTrain 16 = .ok (.ireturn, 1) := by decide +kernel
theorem dL_restoreState_0 : decode cL_restoreState 0 = .ok (.aload_n 1, 1) := by decide +kernel
theorem dL_restoreState_1 : decode cL_restoreState 1 = .ok (.iconst 0, 1) := by decide +kernel
theorem dL_restoreState_2 : decode cL_restoreState 2 = .ok (.aload_n 0, 1) := by decide +kernel
theorem dL_restoreState_3 : decode cL_restoreState 3 = .ok (.invokevirtual 164, 3) := by decide +kernel
theorem dL_restoreState_6 : decode cL_restoreState 6 = .ok (.i2l, 1) := by decide +kernel
theorem dL_restoreState_7 : decode cL_restoreState 7 = .ok (.lastore, 1) := by decide +kernel
theorem dL_restoreState_8 : decode cL_restoreState 8 = .ok (.goto 6, 3) := by decide +kernel
theorem dL_restoreState_11 : decode cL_restoreState 11 = .ok (.astore_n 2, 1) := by decide +kernel
theorem dL_restoreState_12 : decode cL_restoreState 12 = .ok (.iconst 1, 1) := by decide +kernel
theorem dL_restoreState_13 : decode cL_restoreState 13 = .ok (.ireturn, 1) := by decide +kernel
theorem dL_restoreState_14 : decode cL_restoreState 14 = .ok (.iconst 0, 1) := by decide +kernel
theorem dL_restoreState_15 : decode cL_restoreState 15 = .ok (.ireturn, 1) := by decide +kernel
