theorem dX8_end_0 : decode cX8_end 0 = .ok (.aload_n 0, 1) := by decide +kernel
theorem dX8_end_1 : decode cX8_end 1 = .ok (.iload_n 1, 1) := by decide +kernel
theorem dX8_end_2 : decode cX8_end 2 = .ok (.invokevirtual 154, 3) := by decide +kernel
theorem dX8_end_5 : decode cX8_end 5 = .ok (.ifCond .eq 13, 3) := by decide +kernel
theorem dX8_end_8 : decode cX8_end 8 = .ok (.iload_n 2, 1) := by decide +kernel
theorem dX8_end_9 : decode cX8_end 9 = .ok (.i2l, 1) := by decide +kernel
theorem dX8_end_10 : decode cX8_end 10 = .ok (.lconst 0, 1) := by decide +kernel
theorem dX8_end_11 : decode cX8_end 11 = .ok (.lconst 1, 1) := by decide +kernel
theorem dX8_end_12 : decode cX8_end 12 = .ok (.invokestatic 39, 3) := by decide +kernel
theorem dX8_end_15 : decode cX8_end 15 = .ok (.ifCond .ne 8, 3) := by decide +kernel
theorem dX8_end_18 : decode cX8_end 18 = .ok (.ldc 49, 2) := by decide +kernel
theorem dX8_end_20 : decode cX8_end 20 = .ok (.goto 20, 3) := by decide +kernel
theorem dX8_end_23 : decode cX8_end 23 = .ok (.iload_n 2, 1) := by decide +kernel
theorem dX8_end_24 : decode cX8_end 24 = .ok (.ifCond .ne 11, 3) := by decide +kernel
theorem dX8_end_27 : decode cX8_end 27 = .ok (.aload_n 0, 1) := by decide +kernel
theorem dX8_end_28 : decode cX8_end 28 = .ok (.iload_n 1, 1) := by decide +kernel
theorem dX8_end_29 : decode cX8_end 29 = .ok (.invokevirtual 147, 3) := by decide +kernel
theorem dX8_end_32 : decode cX8_end 32 = .ok (.goto 8, 3) := by decide +kernel
theorem dX8_end_35 : decode cX8_end 35 = .ok (.aload_n 0, 1) := by decide +kernel
theorem dX8_end_36 : decode cX8_end 36 = .ok (.iload_n 1, 1) := by decide +kernel
theorem dX8_end_37 : decode cX8_end 37 = .ok (.invokevirtual 150, 3) := by decide +kernel
theorem dX8_end_40 : decode cX8_end 40 = .ok (.ireturn, 1) := by decide +kernel
theorem dX8_next_0 : decode cX8_next 0 = .ok (.aload_n 0, 1) := by decide +kernel
theorem dX8_next_1 : decode cX8_next 1 = .ok (.iload_n 1, 1) := by decide +kernel
theorem dX8_next_2 : decode cX8_next 2 = .ok (.invokevirtual 154, 3) := by decide +kernel
theorem dX8_next_5 : decode cX8_next 5 = .ok (.ifCond .eq 21, 3) := by decide +kernel
theorem dX8_next_8 : decode cX8_next 8 = .ok (.aload_n 0, 1) := by decide +kernel
theorem dX8_next_9 : decode cX8_next 9 = .ok (.iload_n 2, 1) := by decide +kernel
theorem dX8_next_10 : decode cX8_next 10 = .ok (.i2l, 1) := by decide +kernel
theorem dX8_next_11 : decode cX8_next 11 = .ok (.invokevirtual 157, 3) := by decide +kernel
theorem dX8_next_14 : decode cX8_next 14 = .ok (.ifCond .eq 12, 3) := by decide +kernel
theorem dX8_next_17 : decode cX8_next 17 = .ok (.aload_n 0, 1) := by decide +kernel
theorem dX8_next_18 : decode cX8_next 18 = .ok (.iload_n 1, 1) := by decide +kernel
theorem dX8_next_19 : decode cX8_next 19 = .ok (.iload_n 2, 1) := by decide +kernel
theorem dX8_next_20 : decode cX8_next 20 = .ok (.invokevirtual 183, 3) := by decide +kernel
theorem dX8_next_23 : decode cX8_next 23 = .ok (.goto 5, 3) := by decide +kernel
theorem dX8_next_26 : decode cX8_next 26 = .ok (.ldc 49, 2) := by decide +kernel
theorem dX8_next_28 : decode cX8_next 28 = .ok (.ireturn, 1) := by decide +kernel
theorem dX8_beside_0 : decode cX8_beside 0 = .ok (.aload_n 0, 1) := by decide +kernel
theorem dX8_beside_1 : decode cX8_beside 1 = .ok (.iload_n 1, 1) := by decide +kernel
theorem dX8_beside_2 : decode cX8_beside 2 = .ok (.invokevirtual 154, 3) := by decide +kernel
theorem dX8_beside_5 : decode cX8_beside 5 = .ok (.ifCond .eq 22, 3) := by decide +kernel
theorem dX8_beside_8 : decode cX8_beside 8 = .ok (.aload_n 0, 1) := by decide +kernel
theorem dX8_beside_9 : decode cX8_beside 9 = .ok (.iload_n 2, 1) := by decide +kernel
theorem dX8_beside_10 : decode cX8_beside 10 = .ok (.i2l, 1) := by decide +kernel
theorem dX8_beside_11 : decode cX8_beside 11 = .ok (.invokevirtual 157, 3) := by decide +kernel
theorem dX8_beside_14 : decode cX8_beside 14 = .ok (.ifCond .eq 13, 3) := by decide +kernel
theorem dX8_beside_17 : decode cX8_beside 17 = .ok (.iload_n 3, 1) := by decide +kernel
theorem dX8_beside_18 : decode cX8_beside 18 = .ok (.i2l, 1) := by decide +kernel
theorem dX8_beside_19 : decode cX8_beside 19 = .ok (.lconst 0, 1) := by decide +kernel
theorem dX8_beside_20 : decode cX8_beside 20 = .ok (.lconst 1, 1) := by decide +kernel
theorem dX8_beside_21 : decode cX8_beside 21 = .ok (.invokestatic 39, 3) := by decide +kernel
theorem dX8_beside_24 : decode cX8_beside 24 = .ok (.ifCond .ne 8, 3) := by decide +kernel
theorem dX8_beside_27 : decode cX8_beside 27 = .ok (.ldc 49, 2) := by decide +kernel
theorem dX8_beside_29 : decode cX8_beside 29 = .ok (.goto 22, 3) := by decide +kernel
theorem dX8_beside_32 : decode cX8_beside 32 = .ok (.iload_n 3, 1) := by decide +kernel
theorem dX8_beside_33 : decode cX8_beside 33 = .ok (.ifCond .ne 12, 3) := by decide +kernel
theorem dX8_beside_36 : decode cX8_beside 36 = .ok (.aload_n 0, 1) := by decide +kernel
theorem dX8_beside_37 : decode cX8_beside 37 = .ok (.iload_n 1, 1) := by decide +kernel
theorem dX8_beside_38 : decode cX8_beside 38 = .ok (.iload_n 2, 1) := by decide +kernel
theorem dX8_beside_39 : decode cX8_beside 39 = .ok (.invokevirtual 141, 3) := by decide +kernel
theorem dX8_beside_42 : decode cX8_beside 42 = .ok (.goto 9, 3) := by decide +kernel
theorem dX8_beside_45 : decode cX8_beside 45 = .ok (.aload_n 0, 1) := by decide +kernel
theorem dX8_beside_46 : decode cX8_beside 46 = .ok (.iload_n 1, 1) := by decide +kernel
theorem dX8_beside_47 : decode cX8_beside 47 = .ok (.iload_n 2, 1) := by decide +kernel
theorem dX8_beside_48 : decode cX8_beside 48 = .ok (.invokevirtual 144, 3) := by decide +kernel
theorem dX8_beside_51 : decode cX8_beside 51 = .ok (.ireturn, 1) := by decide +kernel
theorem dX8_leastBit_0 : decode cX8_leastBit 0 = .ok (.iconst 0, 1) := by decide +kernel
theorem dX8_leastBit_1 : decode cX8_leastBit 1 = .ok (.istore_n 1, 1) := by decide +kernel
theorem dX8_leastBit_2 : decode cX8_leastBit 2 = .ok (.iload_n 1, 1) := by decide +kernel
theorem dX8_leastBit_3 : decode cX8_leastBit 3 = .ok (.bipush 32, 2) := by decide +kernel
theorem dX8_leastBit_5 : decode cX8_leastBit 5 = .ok (.if_icmp .ge 19, 3) := by decide +kernel
theorem dX8_leastBit_8 : decode cX8_leastBit 8 = .ok (.iload_n 0, 1) := by decide +kernel
theorem dX8_leastBit_9 : decode cX8_leastBit 9 = .ok (.iload_n 1, 1) := by decide +kernel
theorem dX8_leastBit_10 : decode cX8_leastBit 10 = .ok (.invokestatic 131, 3) := by decide +kernel
theorem dX8_leastBit_13 : decode cX8_leastBit 13 = .ok (.ifCond .eq 5, 3) := by decide +kernel
theorem dX8_leastBit_16 : decode cX8_leastBit 16 = .ok (.iload_n 1, 1) := by decide +kernel
theorem dX8_leastBit_17 : decode cX8_leastBit 17 = .ok (.ireturn, 1) := by decide +kernel
theorem dX8_leastBit_18 : decode cX8_leastBit 18 = .ok (.iinc 1 1, 3) := by decide +kernel
theorem dX8_leastBit_21 : decode cX8_leastBit 21 = .ok (.goto (-19), 3) := by decide +kernel
theorem dX8_leastBit_24 : decode cX8_leastBit 24 = .ok (.ldc 140, 2) := by decide +kernel
theorem dX8_leastBit_26 : decode cX8_leastBit 26 = .ok (.ireturn, 1) := by decide +kernel
theorem dX8_greatestBit_0 : decode cX8_greatestBit 0 = .ok (.bipush 31, 2) := by decide +kernel
theorem dX8_greatestBit_2 : decode cX8_greatestBit 2 = .ok (.istore_n 1, 1) := by decide +kernel
theorem dX8_greatestBit_3 : decode cX8_greatestBit 3 = .ok (.iload_n 1, 1) := by decide +kernel
theorem dX8_greatestBit_4 : decode cX8_greatestBit 4 = .ok (.ifCond .lt 19, 3) := by decide +kernel
theorem dX8_greatestBit_7 : decode cX8_greatestBit 7 = .ok (.iload_n 0, 1) := by decide +kernel
theorem dX8_greatestBit_8 : decode cX8_greatestBit 8 = .ok (.iload_n 1, 1) := by decide +kernel
theorem dX8_greatestBit_9 : decode cX8_greatestBit 9 = .ok (.invokestatic 131, 3) := by decide +kernel
theorem dX8_greatestBit_12 : decode cX8_greatestBit 12 = .ok (.ifCond .eq 5, 3) := by decide +kernel
theorem dX8_greatestBit_15 : decode cX8_greatestBit 15 = .ok (.iload_n 1, 1) := by decide +kernel
theorem dX8_greatestBit_16 : decode cX8_greatestBit 16 = .ok (.ireturn, 1) := by decide +kernel
theorem dX8_greatestBit_17 : decode cX8_greatestBit 17 = .ok (.iinc 1 (-1), 3) := by decide +kernel
theorem dX8_greatestBit_20 : decode cX8_greatestBit 20 = .ok (.goto (-17), 3) := by decide +kernel
theorem dX8_greatestBit_23 : decode cX8_greatestBit 23 = .ok (.ldc 140, 2) := by decide +kernel
theorem dX8_greatestBit_25 : decode cX8_greatestBit 25 = .ok (.ireturn, 1) := by decide +kernel
theorem dX8_rest_0 : decode cX8_rest 0 = .ok (.iload_n 0, 1) := by decide +kernel
theorem dX8_rest_1 : decode cX8_rest 1 = .ok (.iload_n 0, 1) := by decide +kernel
theorem dX8_rest_2 : decode cX8_rest 2 = .ok (.iconst 1, 1) := by decide +kernel
theorem dX8_rest_3 : decode cX8_rest 3 = .ok (.isub, 1) := by decide +kernel
theorem dX8_rest_4 : decode cX8_rest 4 = .ok (.iand, 1) := by decide +kernel
theorem dX8_rest_5 : decode cX8_rest 5 = .ok (.ireturn, 1) := by decide +kernel
theorem dX8_part_0 : decode cX8_part 0 = .ok (.iconst 1, 1) := by decide +kernel
theorem dX8_part_1 : decode cX8_part 1 = .ok (.iload_n 2, 1) := by decide +kernel
theorem dX8_part_2 : decode cX8_part 2 = .ok (.ishl, 1) := by decide +kernel
theorem dX8_part_3 : decode cX8_part 3 = .ok (.istore_n 3, 1) := by decide +kernel
theorem dX8_part_4 : decode cX8_part 4 = .ok (.iload_n 0, 1) := by decide +kernel
theorem dX8_part_5 : decode cX8_part 5 = .ok (.iload_n 3, 1) := by decide +kernel
theorem dX8_part_6 : decode cX8_part 6 = .ok (.iload_n 1, 1) := by decide +kernel
theorem dX8_part_7 : decode cX8_part 7 = .ok (.imul, 1) := by decide +kernel
theorem dX8_part_8 : decode cX8_part 8 = .ok (.ishr, 1) := by decide +kernel
theorem dX8_part_9 : decode cX8_part 9 = .ok (.iconst 1, 1) := by decide +kernel
theorem dX8_part_10 : decode cX8_part 10 = .ok (.iload_n 3, 1) := by decide +kernel
theorem dX8_part_11 : decode cX8_part 11 = .ok (.ishl, 1) := by decide +kernel
theorem dX8_part_12 : decode cX8_part 12 = .ok (.iconst 1, 1) := by decide +kernel
theorem dX8_part_13 : decode cX8_part 13 = .ok (.isub, 1) := by decide +kernel
theorem dX8_part_14 : decode cX8_part 14 = .ok (.iand, 1) := by decide +kernel
theorem dX8_part_15 : decode cX8_part 15 = .ok (.ireturn, 1) := by decide +kernel
theorem dX8_highs_0 : decode cX8_highs 0 = .ok (.iconst 0, 1) := by decide +kernel
theorem dX8_highs_1 : decode cX8_highs 1 = .ok (.istore_n 3, 1) := by decide +kernel
theorem dX8_highs_2 : decode cX8_highs 2 = .ok (.iconst 0, 1) := by decide +kernel
theorem dX8_highs_3 : decode cX8_highs 3 = .ok (.istore 4, 2) := by decide +kernel
theorem dX8_highs_5 : decode cX8_highs 5 = .ok (.iload 4, 2) := by decide +kernel
theorem dX8_highs_7 : decode cX8_highs 7 = .ok (.iconst 1, 1) := by decide +kernel
theorem dX8_highs_8 : decode cX8_highs 8 = .ok (.iload_n 2, 1) := by decide +kernel
theorem dX8_highs_9 : decode cX8_highs 9 = .ok (.ishl, 1) := by decide +kernel
theorem dX8_highs_10 : decode cX8_highs 10 = .ok (.if_icmp .ge 30, 3) := by decide +kernel
theorem dX8_highs_13 : decode cX8_highs 13 = .ok (.iload_n 3, 1) := by decide +kernel
theorem dX8_highs_14 : decode cX8_highs 14 = .ok (.iload_n 0, 1) := by decide +kernel
theorem dX8_highs_15 : decode cX8_highs 15 = .ok (.iload 4, 2) := by decide +kernel
theorem dX8_highs_17 : decode cX8_highs 17 = .ok (.iload_n 1, 1) := by decide +kernel
theorem dX8_highs_18 : decode cX8_highs 18 = .ok (.invokestatic 186, 3) := by decide +kernel
theorem dX8_highs_21 : decode cX8_highs 21 = .ok (.ifCond .ne 7, 3) := by decide +kernel
theorem dX8_highs_24 : decode cX8_highs 24 = .ok (.iconst 0, 1) := by decide +kernel
theorem dX8_highs_25 : decode cX8_highs 25 = .ok (.goto 7, 3) := by decide +kernel
theorem dX8_highs_28 : decode cX8_highs 28 = .ok (.iconst 1, 1) := by decide +kernel
theorem dX8_highs_29 : decode cX8_highs 29 = .ok (.iload 4, 2) := by decide +kernel
theorem dX8_highs_31 : decode cX8_highs 31 = .ok (.ishl, 1) := by decide +kernel
theorem dX8_highs_32 : decode cX8_highs 32 = .ok (.ior, 1) := by decide +kernel
theorem dX8_highs_33 : decode cX8_highs 33 = .ok (.istore_n 3, 1) := by decide +kernel
theorem dX8_highs_34 : decode cX8_highs 34 = .ok (.iinc 4 1, 3) := by decide +kernel
theorem dX8_highs_37 : decode cX8_highs 37 = .ok (.goto (-32), 3) := by decide +kernel
theorem dX8_highs_40 : decode cX8_highs 40 = .ok (.iload_n 3, 1) := by decide +kernel
theorem dX8_highs_41 : decode cX8_highs 41 = .ok (.ireturn, 1) := by decide +kernel
theorem dX8_nodes1_0 : decode cX8_nodes1 0 = .ok (.iload_n 0, 1) := by decide +kernel
theorem dX8_nodes1_1 : decode cX8_nodes1 1 = .ok (.ifCond .ne 7, 3) := by decide +kernel
theorem dX8_nodes1_4 : decode cX8_nodes1 4 = .ok (.iconst 0, 1) := by decide +kernel
theorem dX8_nodes1_5 : decode cX8_nodes1 5 = .ok (.goto 4, 3) := by decide +kernel
theorem dX8_nodes1_8 : decode cX8_nodes1 8 = .ok (.iconst 1, 1) := by decide +kernel
theorem dX8_nodes1_9 : decode cX8_nodes1 9 = .ok (.ireturn, 1) := by decide +kernel
theorem dX8_nodes2_0 : decode cX8_nodes2 0 = .ok (.iload_n 0, 1) := by decide +kernel
theorem dX8_nodes2_1 : decode cX8_nodes2 1 = .ok (.invokestatic 190, 3) := by decide +kernel
theorem dX8_nodes2_4 : decode cX8_nodes2 4 = .ok (.istore_n 1, 1) := by decide +kernel
theorem dX8_nodes2_5 : decode cX8_nodes2 5 = .ok (.iload_n 0, 1) := by decide +kernel
theorem dX8_nodes2_6 : decode cX8_nodes2 6 = .ok (.ifCond .ne 7, 3) := by decide +kernel
theorem dX8_nodes2_9 : decode cX8_nodes2 9 = .ok (.iconst 0, 1) := by decide +kernel
theorem dX8_nodes2_10 : decode cX8_nodes2 10 = .ok (.goto 34, 3) := by decide +kernel
theorem dX8_nodes2_13 : decode cX8_nodes2 13 = .ok (.iconst 1, 1) := by decide +kernel
theorem dX8_nodes2_14 : decode cX8_nodes2 14 = .ok (.iload_n 1, 1) := by decide +kernel
theorem dX8_nodes2_15 : decode cX8_nodes2 15 = .ok (.iconst 1, 1) := by decide +kernel
theorem dX8_nodes2_16 : decode cX8_nodes2 16 = .ok (.iconst 1, 1) := by decide +kernel
theorem dX8_nodes2_17 : decode cX8_nodes2 17 = .ok (.invokestatic 193, 3) := by decide +kernel
theorem dX8_nodes2_20 : decode cX8_nodes2 20 = .ok (.invokestatic 196, 3) := by decide +kernel
theorem dX8_nodes2_23 : decode cX8_nodes2 23 = .ok (.iadd, 1) := by decide +kernel
theorem dX8_nodes2_24 : decode cX8_nodes2 24 = .ok (.iload_n 1, 1) := by decide +kernel
theorem dX8_nodes2_25 : decode cX8_nodes2 25 = .ok (.iconst 0, 1) := by decide +kernel
theorem dX8_nodes2_26 : decode cX8_nodes2 26 = .ok (.iconst 1, 1) := by decide +kernel
theorem dX8_nodes2_27 : decode cX8_nodes2 27 = .ok (.invokestatic 186, 3) := by decide +kernel
theorem dX8_nodes2_30 : decode cX8_nodes2 30 = .ok (.invokestatic 196, 3) := by decide +kernel
theorem dX8_nodes2_33 : decode cX8_nodes2 33 = .ok (.iadd, 1) := by decide +kernel
theorem dX8_nodes2_34 : decode cX8_nodes2 34 = .ok (.iload_n 1, 1) := by decide +kernel
theorem dX8_nodes2_35 : decode cX8_nodes2 35 = .ok (.iconst 1, 1) := by decide +kernel
theorem dX8_nodes2_36 : decode cX8_nodes2 36 = .ok (.iconst 1, 1) := by decide +kernel
theorem dX8_nodes2_37 : decode cX8_nodes2 37 = .ok (.invokestatic 186, 3) := by decide +kernel
theorem dX8_nodes2_40 : decode cX8_nodes2 40 = .ok (.invokestatic 196, 3) := by decide +kernel
theorem dX8_nodes2_43 : decode cX8_nodes2 43 = .ok (.iadd, 1) := by decide +kernel
theorem dX8_nodes2_44 : decode cX8_nodes2 44 = .ok (.ireturn, 1) := by decide +kernel
theorem dX8_nodes3_0 : decode cX8_nodes3 0 = .ok (.iload_n 0, 1) := by decide +kernel
theorem dX8_nodes3_1 : decode cX8_nodes3 1 = .ok (.invokestatic 190, 3) := by decide +kernel
theorem dX8_nodes3_4 : decode cX8_nodes3 4 = .ok (.istore_n 1, 1) := by decide +kernel
theorem dX8_nodes3_5 : decode cX8_nodes3 5 = .ok (.iload_n 0, 1) := by decide +kernel
theorem dX8_nodes3_6 : decode cX8_nodes3 6 = .ok (.ifCond .ne 7, 3) := by decide +kernel
theorem dX8_nodes3_9 : decode cX8_nodes3 9 = .ok (.iconst 0, 1) := by decide +kernel
theorem dX8_nodes3_10 : decode cX8_nodes3 10 = .ok (.goto 14, 3) := by decide +kernel
theorem dX8_nodes3_13 : decode cX8_nodes3 13 = .ok (.iconst 1, 1) := by decide +kernel
theorem dX8_nodes3_14 : decode cX8_nodes3 14 = .ok (.iload_n 1, 1) := by decide +kernel
theorem dX8_nodes3_15 : decode cX8_nodes3 15 = .ok (.iconst 1, 1) := by decide +kernel
theorem dX8_nodes3_16 : decode cX8_nodes3 16 = .ok (.iconst 2, 1) := by decide +kernel
theorem dX8_nodes3_17 : decode cX8_nodes3 17 = .ok (.invokestatic 193, 3) := by decide +kernel
theorem dX8_nodes3_20 : decode cX8_nodes3 20 = .ok (.invokestatic 199, 3) := by decide +kernel
theorem dX8_nodes3_23 : decode cX8_nodes3 23 = .ok (.iadd, 1) := by decide +kernel
theorem dX8_nodes3_24 : decode cX8_nodes3 24 = .ok (.istore_n 2, 1) := by decide +kernel
theorem dX8_nodes3_25 : decode cX8_nodes3 25 = .ok (.iconst 0, 1) := by decide +kernel
theorem dX8_nodes3_26 : decode cX8_nodes3 26 = .ok (.istore_n 3, 1) := by decide +kernel
theorem dX8_nodes3_27 : decode cX8_nodes3 27 = .ok (.iload_n 3, 1) := by decide +kernel
theorem dX8_nodes3_28 : decode cX8_nodes3 28 = .ok (.iconst 4, 1) := by decide +kernel
theorem dX8_nodes3_29 : decode cX8_nodes3 29 = .ok (.if_icmp .ge 21, 3) := by decide +kernel
theorem dX8_nodes3_32 : decode cX8_nodes3 32 = .ok (.iload_n 2, 1) := by decide +kernel
theorem dX8_nodes3_33 : decode cX8_nodes3 33 = .ok (.iload_n 1, 1) := by decide +kernel
theorem dX8_nodes3_34 : decode cX8_nodes3 34 = .ok (.iload_n 3, 1) := by decide +kernel
theorem dX8_nodes3_35 : decode cX8_nodes3 35 = .ok (.iconst 1, 1) := by decide +kernel
theorem dX8_nodes3_36 : decode cX8_nodes3 36 = .ok (.invokestatic 186, 3) := by decide +kernel
theorem dX8_nodes3_39 : decode cX8_nodes3 39 = .ok (.invokestatic 196, 3) := by decide +kernel
theorem dX8_nodes3_42 : decode cX8_nodes3 42 = .ok (.iadd, 1) := by decide +kernel
theorem dX8_nodes3_43 : decode cX8_nodes3 43 = .ok (.istore_n 2, 1) := by decide +kernel
theorem dX8_nodes3_44 : decode cX8_nodes3 44 = .ok (.iinc 3 1, 3) := by decide +kernel
theorem dX8_nodes3_47 : decode cX8_nodes3 47 = .ok (.goto (-20), 3) := by decide +kernel
theorem dX8_nodes3_50 : decode cX8_nodes3 50 = .ok (.iload_n 2, 1) := by decide +kernel
theorem dX8_nodes3_51 : decode cX8_nodes3 51 = .ok (.ireturn, 1) := by decide +kernel
theorem dX8_nodes4_0 : decode cX8_nodes4 0 = .ok (.iload_n 0, 1) := by decide +kernel
theorem dX8_nodes4_1 : decode cX8_nodes4 1 = .ok (.invokestatic 190, 3) := by decide +kernel
theorem dX8_nodes4_4 : decode cX8_nodes4 4 = .ok (.istore_n 1, 1) := by decide +kernel
theorem dX8_nodes4_5 : decode cX8_nodes4 5 = .ok (.iload_n 0, 1) := by decide +kernel
theorem dX8_nodes4_6 : decode cX8_nodes4 6 = .ok (.ifCond .ne 7, 3) := by decide +kernel
theorem dX8_nodes4_9 : decode cX8_nodes4 9 = .ok (.iconst 0, 1) := by decide +kernel
theorem dX8_nodes4_10 : decode cX8_nodes4 10 = .ok (.goto 14, 3) := by decide +kernel
theorem dX8_nodes4_13 : decode cX8_nodes4 13 = .ok (.iconst 1, 1) := by decide +kernel
theorem dX8_nodes4_14 : decode cX8_nodes4 14 = .ok (.iload_n 1, 1) := by decide +kernel
theorem dX8_nodes4_15 : decode cX8_nodes4 15 = .ok (.iconst 2, 1) := by decide +kernel
theorem dX8_nodes4_16 : decode cX8_nodes4 16 = .ok (.iconst 2, 1) := by decide +kernel
theorem dX8_nodes4_17 : decode cX8_nodes4 17 = .ok (.invokestatic 193, 3) := by decide +kernel
theorem dX8_nodes4_20 : decode cX8_nodes4 20 = .ok (.invokestatic 199, 3) := by decide +kernel
theorem dX8_nodes4_23 : decode cX8_nodes4 23 = .ok (.iadd, 1) := by decide +kernel
theorem dX8_nodes4_24 : decode cX8_nodes4 24 = .ok (.istore_n 2, 1) := by decide +kernel
theorem dX8_nodes4_25 : decode cX8_nodes4 25 = .ok (.iconst 0, 1) := by decide +kernel
theorem dX8_nodes4_26 : decode cX8_nodes4 26 = .ok (.istore_n 3, 1) := by decide +kernel
theorem dX8_nodes4_27 : decode cX8_nodes4 27 = .ok (.iload_n 3, 1) := by decide +kernel
theorem dX8_nodes4_28 : decode cX8_nodes4 28 = .ok (.iconst 4, 1) := by decide +kernel
theorem dX8_nodes4_29 : decode cX8_nodes4 29 = .ok (.if_icmp .ge 21, 3) := by decide +kernel
theorem dX8_nodes4_32 : decode cX8_nodes4 32 = .ok (.iload_n 2, 1) := by decide +kernel
theorem dX8_nodes4_33 : decode cX8_nodes4 33 = .ok (.iload_n 1, 1) := by decide +kernel
theorem dX8_nodes4_34 : decode cX8_nodes4 34 = .ok (.iload_n 3, 1) := by decide +kernel
theorem dX8_nodes4_35 : decode cX8_nodes4 35 = .ok (.iconst 2, 1) := by decide +kernel
theorem dX8_nodes4_36 : decode cX8_nodes4 36 = .ok (.invokestatic 186, 3) := by decide +kernel
theorem dX8_nodes4_39 : decode cX8_nodes4 39 = .ok (.invokestatic 199, 3) := by decide +kernel
theorem dX8_nodes4_42 : decode cX8_nodes4 42 = .ok (.iadd, 1) := by decide +kernel
theorem dX8_nodes4_43 : decode cX8_nodes4 43 = .ok (.istore_n 2, 1) := by decide +kernel
theorem dX8_nodes4_44 : decode cX8_nodes4 44 = .ok (.iinc 3 1, 3) := by decide +kernel
theorem dX8_nodes4_47 : decode cX8_nodes4 47 = .ok (.goto (-20), 3) := by decide +kernel
theorem dX8_nodes4_50 : decode cX8_nodes4 50 = .ok (.iload_n 2, 1) := by decide +kernel
theorem dX8_nodes4_51 : decode cX8_nodes4 51 = .ok (.ireturn, 1) := by decide +kernel
theorem dX8_nodes5_0 : decode cX8_nodes5 0 = .ok (.iload_n 0, 1) := by decide +kernel
theorem dX8_nodes5_1 : decode cX8_nodes5 1 = .ok (.invokestatic 190, 3) := by decide +kernel
theorem dX8_nodes5_4 : decode cX8_nodes5 4 = .ok (.istore_n 1, 1) := by decide +kernel
theorem dX8_nodes5_5 : decode cX8_nodes5 5 = .ok (.iload_n 0, 1) := by decide +kernel
theorem dX8_nodes5_6 : decode cX8_nodes5 6 = .ok (.ifCond .ne 7, 3) := by decide +kernel
theorem dX8_nodes5_9 : decode cX8_nodes5 9 = .ok (.iconst 0, 1) := by decide +kernel
theorem dX8_nodes5_10 : decode cX8_nodes5 10 = .ok (.goto 14, 3) := by decide +kernel
theorem dX8_nodes5_13 : decode cX8_nodes5 13 = .ok (.iconst 1, 1) := by decide +kernel
theorem dX8_nodes5_14 : decode cX8_nodes5 14 = .ok (.iload_n 1, 1) := by decide +kernel
theorem dX8_nodes5_15 : decode cX8_nodes5 15 = .ok (.iconst 2, 1) := by decide +kernel
theorem dX8_nodes5_16 : decode cX8_nodes5 16 = .ok (.iconst 3, 1) := by decide +kernel
theorem dX8_nodes5_17 : decode cX8_nodes5 17 = .ok (.invokestatic 193, 3) := by decide +kernel
theorem dX8_nodes5_20 : decode cX8_nodes5 20 = .ok (.invokestatic 202, 3) := by decide +kernel
theorem dX8_nodes5_23 : decode cX8_nodes5 23 = .ok (.iadd, 1) := by decide +kernel
theorem dX8_nodes5_24 : decode cX8_nodes5 24 = .ok (.istore_n 2, 1) := by decide +kernel
theorem dX8_nodes5_25 : decode cX8_nodes5 25 = .ok (.iconst 0, 1) := by decide +kernel
theorem dX8_nodes5_26 : decode cX8_nodes5 26 = .ok (.istore_n 3, 1) := by decide +kernel
theorem dX8_nodes5_27 : decode cX8_nodes5 27 = .ok (.iload_n 3, 1) := by decide +kernel
theorem dX8_nodes5_28 : decode cX8_nodes5 28 = .ok (.bipush 8, 2) := by decide +kernel
theorem dX8_nodes5_30 : decode cX8_nodes5 30 = .ok (.if_icmp .ge 21, 3) := by decide +kernel
theorem dX8_nodes5_33 : decode cX8_nodes5 33 = .ok (.iload_n 2, 1) := by decide +kernel
theorem dX8_nodes5_34 : decode cX8_nodes5 34 = .ok (.iload_n 1, 1) := by decide +kernel
theorem dX8_nodes5_35 : decode cX8_nodes5 35 = .ok (.iload_n 3, 1) := by decide +kernel
theorem dX8_nodes5_36 : decode cX8_nodes5 36 = .ok (.iconst 2, 1) := by decide +kernel
theorem dX8_nodes5_37 : decode cX8_nodes5 37 = .ok (.invokestatic 186, 3) := by decide +kernel
theorem dX8_nodes5_40 : decode cX8_nodes5 40 = .ok (.invokestatic 199, 3) := by decide +kernel
theorem dX8_nodes5_43 : decode cX8_nodes5 43 = .ok (.iadd, 1) := by decide +kernel
theorem dX8_nodes5_44 : decode cX8_nodes5 44 = .ok (.istore_n 2, 1) := by decide +kernel
theorem dX8_nodes5_45 : decode cX8_nodes5 45 = .ok (.iinc 3 1, 3) := by decide +kernel
theorem dX8_nodes5_48 : decode cX8_nodes5 48 = .ok (.goto (-21), 3) := by decide +kernel
theorem dX8_nodes5_51 : decode cX8_nodes5 51 = .ok (.iload_n 2, 1) := by decide +kernel
theorem dX8_nodes5_52 : decode cX8_nodes5 52 = .ok (.ireturn, 1) := by decide +kernel
theorem dX8_nodesOf_0 : decode cX8_nodesOf 0 = .ok (.iload_n 1, 1) := by decide +kernel
theorem dX8_nodesOf_1 : decode cX8_nodesOf 1 = .ok (.iconst 1, 1) := by decide +kernel
theorem dX8_nodesOf_2 : decode cX8_nodesOf 2 = .ok (.if_icmp .ne 10, 3) := by decide +kernel
theorem dX8_nodesOf_5 : decode cX8_nodesOf 5 = .ok (.iload_n 0, 1) := by decide +kernel
theorem dX8_nodesOf_6 : decode cX8_nodesOf 6 = .ok (.invokestatic 196, 3) := by decide +kernel
theorem dX8_nodesOf_9 : decode cX8_nodesOf 9 = .ok (.goto 43, 3) := by decide +kernel
theorem dX8_nodesOf_12 : decode cX8_nodesOf 12 = .ok (.iload_n 1, 1) := by decide +kernel
theorem dX8_nodesOf_13 : decode cX8_nodesOf 13 = .ok (.iconst 2, 1) := by decide +kernel
theorem dX8_nodesOf_14 : decode cX8_nodesOf 14 = .ok (.if_icmp .ne 10, 3) := by decide +kernel
theorem dX8_nodesOf_17 : decode cX8_nodesOf 17 = .ok (.iload_n 0, 1) := by decide +kernel
theorem dX8_nodesOf_18 : decode cX8_nodesOf 18 = .ok (.invokestatic 199, 3) := by decide +kernel
theorem dX8_nodesOf_21 : decode cX8_nodesOf 21 = .ok (.goto 31, 3) := by decide +kernel
theorem dX8_nodesOf_24 : decode cX8_nodesOf 24 = .ok (.iload_n 1, 1) := by decide +kernel
theorem dX8_nodesOf_25 : decode cX8_nodesOf 25 = .ok (.iconst 3, 1) := by decide +kernel
theorem dX8_nodesOf_26 : decode cX8_nodesOf 26 = .ok (.if_icmp .ne 10, 3) := by decide +kernel
theorem dX8_nodesOf_29 : decode cX8_nodesOf 29 = .ok (.iload_n 0, 1) := by decide +kernel
theorem dX8_nodesOf_30 : decode cX8_nodesOf 30 = .ok (.invokestatic 202, 3) := by decide +kernel
theorem dX8_nodesOf_33 : decode cX8_nodesOf 33 = .ok (.goto 19, 3) := by decide +kernel
theorem dX8_nodesOf_36 : decode cX8_nodesOf 36 = .ok (.iload_n 1, 1) := by decide +kernel
theorem dX8_nodesOf_37 : decode cX8_nodesOf 37 = .ok (.iconst 4, 1) := by decide +kernel
theorem dX8_nodesOf_38 : decode cX8_nodesOf 38 = .ok (.if_icmp .ne 10, 3) := by decide +kernel
theorem dX8_nodesOf_41 : decode cX8_nodesOf 41 = .ok (.iload_n 0, 1) := by decide +kernel
theorem dX8_nodesOf_42 : decode cX8_nodesOf 42 = .ok (.invokestatic 205, 3) := by decide +kernel
theorem dX8_nodesOf_45 : decode cX8_nodesOf 45 = .ok (.goto 7, 3) := by decide +kernel
theorem dX8_nodesOf_48 : decode cX8_nodesOf 48 = .ok (.iload_n 0, 1) := by decide +kernel
theorem dX8_nodesOf_49 : decode cX8_nodesOf 49 = .ok (.invokestatic 208, 3) := by decide +kernel
theorem dX8_nodesOf_52 : decode cX8_nodesOf 52 = .ok (.ireturn, 1) := by decide +kernel
theorem dX8_more_0 : decode cX8_more 0 = .ok (.iload_n 0, 1) := by decide +kernel
theorem dX8_more_1 : decode cX8_more 1 = .ok (.iload_n 1, 1) := by decide +kernel
theorem dX8_more_2 : decode cX8_more 2 = .ok (.if_icmp .le 7, 3) := by decide +kernel
theorem dX8_more_5 : decode cX8_more 5 = .ok (.iload_n 0, 1) := by decide +kernel
theorem dX8_more_6 : decode cX8_more 6 = .ok (.goto 4, 3) := by decide +kernel
theorem dX8_more_9 : decode cX8_more 9 = .ok (.iload_n 1, 1) := by decide +kernel
theorem dX8_more_10 : decode cX8_more 10 = .ok (.ireturn, 1) := by decide +kernel
theorem dX8_deep2_0 : decode cX8_deep2 0 = .ok (.iload_n 0, 1) := by decide +kernel
theorem dX8_deep2_1 : decode cX8_deep2 1 = .ok (.ifCond .ne 7, 3) := by decide +kernel
theorem dX8_deep2_4 : decode cX8_deep2 4 = .ok (.iconst 0, 1) := by decide +kernel
theorem dX8_deep2_5 : decode cX8_deep2 5 = .ok (.goto 15, 3) := by decide +kernel
theorem dX8_deep2_8 : decode cX8_deep2 8 = .ok (.iload_n 0, 1) := by decide +kernel
theorem dX8_deep2_9 : decode cX8_deep2 9 = .ok (.invokestatic 190, 3) := by decide +kernel
theorem dX8_deep2_12 : decode cX8_deep2 12 = .ok (.ifCond .ne 7, 3) := by decide +kernel
theorem dX8_deep2_15 : decode cX8_deep2 15 = .ok (.iconst 1, 1) := by decide +kernel
theorem dX8_deep2_16 : decode cX8_deep2 16 = .ok (.goto 4, 3) := by decide +kernel
theorem dX8_deep2_19 : decode cX8_deep2 19 = .ok (.iconst 2, 1) := by decide +kernel
theorem dX8_deep2_20 : decode cX8_deep2 20 = .ok (.ireturn, 1) := by decide +kernel
theorem dX8_deep3_0 : decode cX8_deep3 0 = .ok (.iload_n 0, 1) := by decide +kernel
theorem dX8_deep3_1 : decode cX8_deep3 1 = .ok (.invokestatic 190, 3) := by decide +kernel
theorem dX8_deep3_4 : decode cX8_deep3 4 = .ok (.istore_n 1, 1) := by decide +kernel
theorem dX8_deep3_5 : decode cX8_deep3 5 = .ok (.iload_n 1, 1) := by decide +kernel
theorem dX8_deep3_6 : decode cX8_deep3 6 = .ok (.iconst 1, 1) := by decide +kernel
theorem dX8_deep3_7 : decode cX8_deep3 7 = .ok (.iconst 2, 1) := by decide +kernel
theorem dX8_deep3_8 : decode cX8_deep3 8 = .ok (.invokestatic 193, 3) := by decide +kernel
theorem dX8_deep3_11 : decode cX8_deep3 11 = .ok (.invokestatic 211, 3) := by decide +kernel
theorem dX8_deep3_14 : decode cX8_deep3 14 = .ok (.istore_n 2, 1) := by decide +kernel
theorem dX8_deep3_15 : decode cX8_deep3 15 = .ok (.iload_n 0, 1) := by decide +kernel
theorem dX8_deep3_16 : decode cX8_deep3 16 = .ok (.ifCond .ne 7, 3) := by decide +kernel
theorem dX8_deep3_19 : decode cX8_deep3 19 = .ok (.iconst 0, 1) := by decide +kernel
theorem dX8_deep3_20 : decode cX8_deep3 20 = .ok (.goto 18, 3) := by decide +kernel
theorem dX8_deep3_23 : decode cX8_deep3 23 = .ok (.iconst 1, 1) := by decide +kernel
theorem dX8_deep3_24 : decode cX8_deep3 24 = .ok (.iload_n 2, 1) := by decide +kernel
theorem dX8_deep3_25 : decode cX8_deep3 25 = .ok (.iload_n 1, 1) := by decide +kernel
theorem dX8_deep3_26 : decode cX8_deep3 26 = .ok (.ifCond .ne 7, 3) := by decide +kernel
theorem dX8_deep3_29 : decode cX8_deep3 29 = .ok (.iconst 0, 1) := by decide +kernel
theorem dX8_deep3_30 : decode cX8_deep3 30 = .ok (.goto 4, 3) := by decide +kernel
theorem dX8_deep3_33 : decode cX8_deep3 33 = .ok (.iconst 1, 1) := by decide +kernel
theorem dX8_deep3_34 : decode cX8_deep3 34 = .ok (.invokestatic 214, 3) := by decide +kernel
theorem dX8_deep3_37 : decode cX8_deep3 37 = .ok (.iadd, 1) := by decide +kernel
theorem dX8_deep3_38 : decode cX8_deep3 38 = .ok (.ireturn, 1) := by decide +kernel
theorem dX8_deep4_0 : decode cX8_deep4 0 = .ok (.iload_n 0, 1) := by decide +kernel
theorem dX8_deep4_1 : decode cX8_deep4 1 = .ok (.invokestatic 190, 3) := by decide +kernel
theorem dX8_deep4_4 : decode cX8_deep4 4 = .ok (.istore_n 1, 1) := by decide +kernel
theorem dX8_deep4_5 : decode cX8_deep4 5 = .ok (.iload_n 1, 1) := by decide +kernel
theorem dX8_deep4_6 : decode cX8_deep4 6 = .ok (.iconst 2, 1) := by decide +kernel
theorem dX8_deep4_7 : decode cX8_deep4 7 = .ok (.iconst 2, 1) := by decide +kernel
theorem dX8_deep4_8 : decode cX8_deep4 8 = .ok (.invokestatic 193, 3) := by decide +kernel
theorem dX8_deep4_11 : decode cX8_deep4 11 = .ok (.invokestatic 211, 3) := by decide +kernel
theorem dX8_deep4_14 : decode cX8_deep4 14 = .ok (.istore_n 2, 1) := by decide +kernel
theorem dX8_deep4_15 : decode cX8_deep4 15 = .ok (.iconst 0, 1) := by decide +kernel
theorem dX8_deep4_16 : decode cX8_deep4 16 = .ok (.istore_n 3, 1) := by decide +kernel
theorem dX8_deep4_17 : decode cX8_deep4 17 = .ok (.iload_n 3, 1) := by decide +kernel
theorem dX8_deep4_18 : decode cX8_deep4 18 = .ok (.iconst 4, 1) := by decide +kernel
theorem dX8_deep4_19 : decode cX8_deep4 19 = .ok (.if_icmp .ge 23, 3) := by decide +kernel
theorem dX8_deep4_22 : decode cX8_deep4 22 = .ok (.iload_n 2, 1) := by decide +kernel
theorem dX8_deep4_23 : decode cX8_deep4 23 = .ok (.iload_n 1, 1) := by decide +kernel
theorem dX8_deep4_24 : decode cX8_deep4 24 = .ok (.iload_n 3, 1) := by decide +kernel
theorem dX8_deep4_25 : decode cX8_deep4 25 = .ok (.iconst 2, 1) := by decide +kernel
theorem dX8_deep4_26 : decode cX8_deep4 26 = .ok (.invokestatic 186, 3) := by decide +kernel
theorem dX8_deep4_29 : decode cX8_deep4 29 = .ok (.invokestatic 211, 3) := by decide +kernel
theorem dX8_deep4_32 : decode cX8_deep4 32 = .ok (.invokestatic 214, 3) := by decide +kernel
theorem dX8_deep4_35 : decode cX8_deep4 35 = .ok (.istore_n 2, 1) := by decide +kernel
theorem dX8_deep4_36 : decode cX8_deep4 36 = .ok (.iinc 3 1, 3) := by decide +kernel
theorem dX8_deep4_39 : decode cX8_deep4 39 = .ok (.goto (-22), 3) := by decide +kernel
theorem dX8_deep4_42 : decode cX8_deep4 42 = .ok (.iload_n 0, 1) := by decide +kernel
theorem dX8_deep4_43 : decode cX8_deep4 43 = .ok (.ifCond .ne 7, 3) := by decide +kernel
theorem dX8_deep4_46 : decode cX8_deep4 46 = .ok (.iconst 0, 1) := by decide +kernel
theorem dX8_deep4_47 : decode cX8_deep4 47 = .ok (.goto 6, 3) := by decide +kernel
theorem dX8_deep4_50 : decode cX8_deep4 50 = .ok (.iconst 1, 1) := by decide +kernel
theorem dX8_deep4_51 : decode cX8_deep4 51 = .ok (.iload_n 2, 1) := by decide +kernel
theorem dX8_deep4_52 : decode cX8_deep4 52 = .ok (.iadd, 1) := by decide +kernel
theorem dX8_deep4_53 : decode cX8_deep4 53 = .ok (.ireturn, 1) := by decide +kernel
theorem dX8_deep5_0 : decode cX8_deep5 0 = .ok (.iload_n 0, 1) := by decide +kernel
theorem dX8_deep5_1 : decode cX8_deep5 1 = .ok (.invokestatic 190, 3) := by decide +kernel
theorem dX8_deep5_4 : decode cX8_deep5 4 = .ok (.istore_n 1, 1) := by decide +kernel
theorem dX8_deep5_5 : decode cX8_deep5 5 = .ok (.iload_n 1, 1) := by decide +kernel
theorem dX8_deep5_6 : decode cX8_deep5 6 = .ok (.iconst 2, 1) := by decide +kernel
theorem dX8_deep5_7 : decode cX8_deep5 7 = .ok (.iconst 3, 1) := by decide +kernel
theorem dX8_deep5_8 : decode cX8_deep5 8 = .ok (.invokestatic 193, 3) := by decide +kernel
theorem dX8_deep5_11 : decode cX8_deep5 11 = .ok (.invokestatic 217, 3) := by decide +kernel
theorem dX8_deep5_14 : decode cX8_deep5 14 = .ok (.istore_n 2, 1) := by decide +kernel
theorem dX8_deep5_15 : decode cX8_deep5 15 = .ok (.iconst 0, 1) := by decide +kernel
theorem dX8_deep5_16 : decode cX8_deep5 16 = .ok (.istore_n 3, 1) := by decide +kernel
theorem dX8_deep5_17 : decode cX8_deep5 17 = .ok (.iload_n 3, 1) := by decide +kernel
theorem dX8_deep5_18 : decode cX8_deep5 18 = .ok (.bipush 8, 2) := by decide +kernel
theorem dX8_deep5_20 : decode cX8_deep5 20 = .ok (.if_icmp .ge 23, 3) := by decide +kernel
theorem dX8_deep5_23 : decode cX8_deep5 23 = .ok (.iload_n 2, 1) := by decide +kernel
theorem dX8_deep5_24 : decode cX8_deep5 24 = .ok (.iload_n 1, 1) := by decide +kernel
theorem dX8_deep5_25 : decode cX8_deep5 25 = .ok (.iload_n 3, 1) := by decide +kernel
theorem dX8_deep5_26 : decode cX8_deep5 26 = .ok (.iconst 2, 1) := by decide +kernel
theorem dX8_deep5_27 : decode cX8_deep5 27 = .ok (.invokestatic 186, 3) := by decide +kernel
theorem dX8_deep5_30 : decode cX8_deep5 30 = .ok (.invokestatic 211, 3) := by decide +kernel
theorem dX8_deep5_33 : decode cX8_deep5 33 = .ok (.invokestatic 214, 3) := by decide +kernel
theorem dX8_deep5_36 : decode cX8_deep5 36 = .ok (.istore_n 2, 1) := by decide +kernel
theorem dX8_deep5_37 : decode cX8_deep5 37 = .ok (.iinc 3 1, 3) := by decide +kernel
theorem dX8_deep5_40 : decode cX8_deep5 40 = .ok (.goto (-23), 3) := by decide +kernel
theorem dX8_deep5_43 : decode cX8_deep5 43 = .ok (.iload_n 0, 1) := by decide +kernel
theorem dX8_deep5_44 : decode cX8_deep5 44 = .ok (.ifCond .ne 7, 3) := by decide +kernel
theorem dX8_deep5_47 : decode cX8_deep5 47 = .ok (.iconst 0, 1) := by decide +kernel
theorem dX8_deep5_48 : decode cX8_deep5 48 = .ok (.goto 6, 3) := by decide +kernel
theorem dX8_deep5_51 : decode cX8_deep5 51 = .ok (.iconst 1, 1) := by decide +kernel
theorem dX8_deep5_52 : decode cX8_deep5 52 = .ok (.iload_n 2, 1) := by decide +kernel
theorem dX8_deep5_53 : decode cX8_deep5 53 = .ok (.iadd, 1) := by decide +kernel
theorem dX8_deep5_54 : decode cX8_deep5 54 = .ok (.ireturn, 1) := by decide +kernel
theorem dX8_deepOf_0 : decode cX8_deepOf 0 = .ok (.iload_n 1, 1) := by decide +kernel
theorem dX8_deepOf_1 : decode cX8_deepOf 1 = .ok (.iconst 1, 1) := by decide +kernel
theorem dX8_deepOf_2 : decode cX8_deepOf 2 = .ok (.if_icmp .ne 10, 3) := by decide +kernel
theorem dX8_deepOf_5 : decode cX8_deepOf 5 = .ok (.iload_n 0, 1) := by decide +kernel
theorem dX8_deepOf_6 : decode cX8_deepOf 6 = .ok (.invokestatic 196, 3) := by decide +kernel
theorem dX8_deepOf_9 : decode cX8_deepOf 9 = .ok (.goto 43, 3) := by decide +kernel
theorem dX8_deepOf_12 : decode cX8_deepOf 12 = .ok (.iload_n 1, 1) := by decide +kernel
theorem dX8_deepOf_13 : decode cX8_deepOf 13 = .ok (.iconst 2, 1) := by decide +kernel
theorem dX8_deepOf_14 : decode cX8_deepOf 14 = .ok (.if_icmp .ne 10, 3) := by decide +kernel
theorem dX8_deepOf_17 : decode cX8_deepOf 17 = .ok (.iload_n 0, 1) := by decide +kernel
theorem dX8_deepOf_18 : decode cX8_deepOf 18 = .ok (.invokestatic 211, 3) := by decide +kernel
theorem dX8_deepOf_21 : decode cX8_deepOf 21 = .ok (.goto 31, 3) := by decide +kernel
theorem dX8_deepOf_24 : decode cX8_deepOf 24 = .ok (.iload_n 1, 1) := by decide +kernel
theorem dX8_deepOf_25 : decode cX8_deepOf 25 = .ok (.iconst 3, 1) := by decide +kernel
theorem dX8_deepOf_26 : decode cX8_deepOf 26 = .ok (.if_icmp .ne 10, 3) := by decide +kernel
theorem dX8_deepOf_29 : decode cX8_deepOf 29 = .ok (.iload_n 0, 1) := by decide +kernel
theorem dX8_deepOf_30 : decode cX8_deepOf 30 = .ok (.invokestatic 217, 3) := by decide +kernel
theorem dX8_deepOf_33 : decode cX8_deepOf 33 = .ok (.goto 19, 3) := by decide +kernel
theorem dX8_deepOf_36 : decode cX8_deepOf 36 = .ok (.iload_n 1, 1) := by decide +kernel
theorem dX8_deepOf_37 : decode cX8_deepOf 37 = .ok (.iconst 4, 1) := by decide +kernel
theorem dX8_deepOf_38 : decode cX8_deepOf 38 = .ok (.if_icmp .ne 10, 3) := by decide +kernel
theorem dX8_deepOf_41 : decode cX8_deepOf 41 = .ok (.iload_n 0, 1) := by decide +kernel
theorem dX8_deepOf_42 : decode cX8_deepOf 42 = .ok (.invokestatic 220, 3) := by decide +kernel
theorem dX8_deepOf_45 : decode cX8_deepOf 45 = .ok (.goto 7, 3) := by decide +kernel
theorem dX8_deepOf_48 : decode cX8_deepOf 48 = .ok (.iload_n 0, 1) := by decide +kernel
theorem dX8_deepOf_49 : decode cX8_deepOf 49 = .ok (.invokestatic 223, 3) := by decide +kernel
theorem dX8_deepOf_52 : decode cX8_deepOf 52 = .ok (.ireturn, 1) := by decide +kernel
theorem dX8_lowBits_0 : decode cX8_lowBits 0 = .ok (.aload_n 0, 1) := by decide +kernel
theorem dX8_lowBits_1 : decode cX8_lowBits 1 = .ok (.getfield 7, 3) := by decide +kernel
theorem dX8_lowBits_4 : decode cX8_lowBits 4 = .ok (.iconst 1, 1) := by decide +kernel
theorem dX8_lowBits_5 : decode cX8_lowBits 5 = .ok (.iaload, 1) := by decide +kernel
theorem dX8_lowBits_6 : decode cX8_lowBits 6 = .ok (.iconst 2, 1) := by decide +kernel
theorem dX8_lowBits_7 : decode cX8_lowBits 7 = .ok (.idiv, 1) := by decide +kernel
theorem dX8_lowBits_8 : decode cX8_lowBits 8 = .ok (.ireturn, 1) := by decide +kernel
theorem dX8_highBits_0 : decode cX8_highBits 0 = .ok (.aload_n 0, 1) := by decide +kernel
theorem dX8_highBits_1 : decode cX8_highBits 1 = .ok (.getfield 7, 3) := by decide +kernel
theorem dX8_highBits_4 : decode cX8_highBits 4 = .ok (.iconst 1, 1) := by decide +kernel
theorem dX8_highBits_5 : decode cX8_highBits 5 = .ok (.iaload, 1) := by decide +kernel
theorem dX8_highBits_6 : decode cX8_highBits 6 = .ok (.aload_n 0, 1) := by decide +kernel
theorem dX8_highBits_7 : decode cX8_highBits 7 = .ok (.invokevirtual 226, 3) := by decide +kernel
theorem dX8_highBits_10 : decode cX8_highBits 10 = .ok (.isub, 1) := by decide +kernel
theorem dX8_highBits_11 : decode cX8_highBits 11 = .ok (.ireturn, 1) := by decide +kernel
theorem dX8_clusterOf_0 : decode cX8_clusterOf 0 = .ok (.aload_n 0, 1) := by decide +kernel
theorem dX8_clusterOf_1 : decode cX8_clusterOf 1 = .ok (.invokevirtual 226, 3) := by decide +kernel
theorem dX8_clusterOf_4 : decode cX8_clusterOf 4 = .ok (.istore_n 3, 1) := by decide +kernel
theorem dX8_clusterOf_5 : decode cX8_clusterOf 5 = .ok (.aload_n 0, 1) := by decide +kernel
theorem dX8_clusterOf_6 : decode cX8_clusterOf 6 = .ok (.iload_n 1, 1) := by decide +kernel
theorem dX8_clusterOf_7 : decode cX8_clusterOf 7 = .ok (.invokevirtual 147, 3) := by decide +kernel
theorem dX8_clusterOf_10 : decode cX8_clusterOf 10 = .ok (.istore 4, 2) := by decide +kernel
theorem dX8_clusterOf_12 : decode cX8_clusterOf 12 = .ok (.iconst 0, 1) := by decide +kernel
theorem dX8_clusterOf_13 : decode cX8_clusterOf 13 = .ok (.istore 5, 2) := by decide +kernel
theorem dX8_clusterOf_15 : decode cX8_clusterOf 15 = .ok (.iconst 0, 1) := by decide +kernel
theorem dX8_clusterOf_16 : decode cX8_clusterOf 16 = .ok (.istore 6, 2) := by decide +kernel
theorem dX8_clusterOf_18 : decode cX8_clusterOf 18 = .ok (.iload 6, 2) := by decide +kernel
theorem dX8_clusterOf_20 : decode cX8_clusterOf 20 = .ok (.iconst 1, 1) := by decide +kernel
theorem dX8_clusterOf_21 : decode cX8_clusterOf 21 = .ok (.iload_n 3, 1) := by decide +kernel
theorem dX8_clusterOf_22 : decode cX8_clusterOf 22 = .ok (.ishl, 1) := by decide +kernel
theorem dX8_clusterOf_23 : decode cX8_clusterOf 23 = .ok (.if_icmp .ge 48, 3) := by decide +kernel
theorem dX8_clusterOf_26 : decode cX8_clusterOf 26 = .ok (.iload_n 2, 1) := by decide +kernel
theorem dX8_clusterOf_27 : decode cX8_clusterOf 27 = .ok (.iload_n 3, 1) := by decide +kernel
theorem dX8_clusterOf_28 : decode cX8_clusterOf 28 = .ok (.ishl, 1) := by decide +kernel
theorem dX8_clusterOf_29 : decode cX8_clusterOf 29 = .ok (.iload 6, 2) := by decide +kernel
theorem dX8_clusterOf_31 : decode cX8_clusterOf 31 = .ok (.iadd, 1) := by decide +kernel
theorem dX8_clusterOf_32 : decode cX8_clusterOf 32 = .ok (.istore 7, 2) := by decide +kernel
theorem dX8_clusterOf_34 : decode cX8_clusterOf 34 = .ok (.iload 5, 2) := by decide +kernel
theorem dX8_clusterOf_36 : decode cX8_clusterOf 36 = .ok (.aload_n 0, 1) := by decide +kernel
theorem dX8_clusterOf_37 : decode cX8_clusterOf 37 = .ok (.iconst 0, 1) := by decide +kernel
theorem dX8_clusterOf_38 : decode cX8_clusterOf 38 = .ok (.iload_n 1, 1) := by decide +kernel
theorem dX8_clusterOf_39 : decode cX8_clusterOf 39 = .ok (.iload 7, 2) := by decide +kernel
theorem dX8_clusterOf_41 : decode cX8_clusterOf 41 = .ok (.invokevirtual 137, 3) := by decide +kernel
theorem dX8_clusterOf_44 : decode cX8_clusterOf 44 = .ok (.ifCond .eq 17, 3) := by decide +kernel
theorem dX8_clusterOf_47 : decode cX8_clusterOf 47 = .ok (.iload 7, 2) := by decide +kernel
theorem dX8_clusterOf_49 : decode cX8_clusterOf 49 = .ok (.iload 4, 2) := by decide +kernel
theorem dX8_clusterOf_51 : decode cX8_clusterOf 51 = .ok (.if_icmp .eq 10, 3) := by decide +kernel
theorem dX8_clusterOf_54 : decode cX8_clusterOf 54 = .ok (.iconst 1, 1) := by decide +kernel
theorem dX8_clusterOf_55 : decode cX8_clusterOf 55 = .ok (.iload 6, 2) := by decide +kernel
theorem dX8_clusterOf_57 : decode cX8_clusterOf 57 = .ok (.ishl, 1) := by decide +kernel
theorem dX8_clusterOf_58 : decode cX8_clusterOf 58 = .ok (.goto 4, 3) := by decide +kernel
theorem dX8_clusterOf_61 : decode cX8_clusterOf 61 = .ok (.iconst 0, 1) := by decide +kernel
theorem dX8_clusterOf_62 : decode cX8_clusterOf 62 = .ok (.ior, 1) := by decide +kernel
theorem dX8_clusterOf_63 : decode cX8_clusterOf 63 = .ok (.istore 5, 2) := by decide +kernel
theorem dX8_clusterOf_65 : decode cX8_clusterOf 65 = .ok (.iinc 6 1, 3) := by decide +kernel
theorem dX8_clusterOf_68 : decode cX8_clusterOf 68 = .ok (.goto (-50), 3) := by decide +kernel
theorem dX8_clusterOf_71 : decode cX8_clusterOf 71 = .ok (.iload 5, 2) := by decide +kernel
theorem dX8_clusterOf_73 : decode cX8_clusterOf 73 = .ok (.ireturn, 1) := by decide +kernel
theorem dX8_summaryOf_0 : decode cX8_summaryOf 0 = .ok (.iconst 0, 1) := by decide +kernel
theorem dX8_summaryOf_1 : decode cX8_summaryOf 1 = .ok (.istore_n 2, 1) := by decide +kernel
theorem dX8_summaryOf_2 : decode cX8_summaryOf 2 = .ok (.iconst 0, 1) := by decide +kernel
theorem dX8_summaryOf_3 : decode cX8_summaryOf 3 = .ok (.istore_n 3, 1) := by decide +kernel
theorem dX8_summaryOf_4 : decode cX8_summaryOf 4 = .ok (.iload_n 3, 1) := by decide +kernel
theorem dX8_summaryOf_5 : decode cX8_summaryOf 5 = .ok (.iconst 1, 1) := by decide +kernel
theorem dX8_summaryOf_6 : decode cX8_summaryOf 6 = .ok (.aload_n 0, 1) := by decide +kernel
theorem dX8_summaryOf_7 : decode cX8_summaryOf 7 = .ok (.invokevirtual 229, 3) := by decide +kernel
theorem dX8_summaryOf_10 : decode cX8_summaryOf 10 = .ok (.ishl, 1) := by decide +kernel
theorem dX8_summaryOf_11 : decode cX8_summaryOf 11 = .ok (.if_icmp .ge 28, 3) := by decide +kernel
theorem dX8_summaryOf_14 : decode cX8_summaryOf 14 = .ok (.iload_n 2, 1) := by decide +kernel
theorem dX8_summaryOf_15 : decode cX8_summaryOf 15 = .ok (.aload_n 0, 1) := by decide +kernel
theorem dX8_summaryOf_16 : decode cX8_summaryOf 16 = .ok (.iload_n 1, 1) := by decide +kernel
theorem dX8_summaryOf_17 : decode cX8_summaryOf 17 = .ok (.iload_n 3, 1) := by decide +kernel
theorem dX8_summaryOf_18 : decode cX8_summaryOf 18 = .ok (.invokevirtual 232, 3) := by decide +kernel
theorem dX8_summaryOf_21 : decode cX8_summaryOf 21 = .ok (.ifCond .ne 7, 3) := by decide +kernel
theorem dX8_summaryOf_24 : decode cX8_summaryOf 24 = .ok (.iconst 0, 1) := by decide +kernel
theorem dX8_summaryOf_25 : decode cX8_summaryOf 25 = .ok (.goto 6, 3) := by decide +kernel
theorem dX8_summaryOf_28 : decode cX8_summaryOf 28 = .ok (.iconst 1, 1) := by decide +kernel
theorem dX8_summaryOf_29 : decode cX8_summaryOf 29 = .ok (.iload_n 3, 1) := by decide +kernel
theorem dX8_summaryOf_30 : decode cX8_summaryOf 30 = .ok (.ishl, 1) := by decide +kernel
theorem dX8_summaryOf_31 : decode cX8_summaryOf 31 = .ok (.ior, 1) := by decide +kernel
theorem dX8_summaryOf_32 : decode cX8_summaryOf 32 = .ok (.istore_n 2, 1) := by decide +kernel
theorem dX8_summaryOf_33 : decode cX8_summaryOf 33 = .ok (.iinc 3 1, 3) := by decide +kernel
theorem dX8_summaryOf_36 : decode cX8_summaryOf 36 = .ok (.goto (-32), 3) := by decide +kernel
theorem dX8_summaryOf_39 : decode cX8_summaryOf 39 = .ok (.iload_n 2, 1) := by decide +kernel
theorem dX8_summaryOf_40 : decode cX8_summaryOf 40 = .ok (.ireturn, 1) := by decide +kernel
theorem dX8_nodesIn_0 : decode cX8_nodesIn 0 = .ok (.aload_n 0, 1) := by decide +kernel
theorem dX8_nodesIn_1 : decode cX8_nodesIn 1 = .ok (.iconst 0, 1) := by decide +kernel
theorem dX8_nodesIn_2 : decode cX8_nodesIn 2 = .ok (.iload_n 1, 1) := by decide +kernel
theorem dX8_nodesIn_3 : decode cX8_nodesIn 3 = .ok (.invokevirtual 168, 3) := by decide +kernel
theorem dX8_nodesIn_6 : decode cX8_nodesIn 6 = .ok (.ifCond .ne 5, 3) := by decide +kernel
theorem dX8_nodesIn_9 : decode cX8_nodesIn 9 = .ok (.iconst 0, 1) := by decide +kernel
theorem dX8_nodesIn_10 : decode cX8_nodesIn 10 = .ok (.ireturn, 1) := by decide +kernel
theorem dX8_nodesIn_11 : decode cX8_nodesIn 11 = .ok (.iconst 1, 1) := by decide +kernel
theorem dX8_nodesIn_12 : decode cX8_nodesIn 12 = .ok (.aload_n 0, 1) := by decide +kernel
theorem dX8_nodesIn_13 : decode cX8_nodesIn 13 = .ok (.iload_n 1, 1) := by decide +kernel
theorem dX8_nodesIn_14 : decode cX8_nodesIn 14 = .ok (.invokevirtual 235, 3) := by decide +kernel
theorem dX8_nodesIn_17 : decode cX8_nodesIn 17 = .ok (.aload_n 0, 1) := by decide +kernel
theorem dX8_nodesIn_18 : decode cX8_nodesIn 18 = .ok (.invokevirtual 229, 3) := by decide +kernel
theorem dX8_nodesIn_21 : decode cX8_nodesIn 21 = .ok (.invokestatic 238, 3) := by decide +kernel
theorem dX8_nodesIn_24 : decode cX8_nodesIn 24 = .ok (.iadd, 1) := by decide +kernel
theorem dX8_nodesIn_25 : decode cX8_nodesIn 25 = .ok (.istore_n 2, 1) := by decide +kernel
theorem dX8_nodesIn_26 : decode cX8_nodesIn 26 = .ok (.iconst 0, 1) := by decide +kernel
theorem dX8_nodesIn_27 : decode cX8_nodesIn 27 = .ok (.istore_n 3, 1) := by decide +kernel
theorem dX8_nodesIn_28 : decode cX8_nodesIn 28 = .ok (.iload_n 3, 1) := by decide +kernel
theorem dX8_nodesIn_29 : decode cX8_nodesIn 29 = .ok (.iconst 1, 1) := by decide +kernel
theorem dX8_nodesIn_30 : decode cX8_nodesIn 30 = .ok (.aload_n 0, 1) := by decide +kernel
theorem dX8_nodesIn_31 : decode cX8_nodesIn 31 = .ok (.invokevirtual 229, 3) := by decide +kernel
theorem dX8_nodesIn_34 : decode cX8_nodesIn 34 = .ok (.ishl, 1) := by decide +kernel
theorem dX8_nodesIn_35 : decode cX8_nodesIn 35 = .ok (.if_icmp .ge 25, 3) := by decide +kernel
theorem dX8_nodesIn_38 : decode cX8_nodesIn 38 = .ok (.iload_n 2, 1) := by decide +kernel
theorem dX8_nodesIn_39 : decode cX8_nodesIn 39 = .ok (.aload_n 0, 1) := by decide +kernel
theorem dX8_nodesIn_40 : decode cX8_nodesIn 40 = .ok (.iload_n 1, 1) := by decide +kernel
theorem dX8_nodesIn_41 : decode cX8_nodesIn 41 = .ok (.iload_n 3, 1) := by decide +kernel
theorem dX8_nodesIn_42 : decode cX8_nodesIn 42 = .ok (.invokevirtual 232, 3) := by decide +kernel
theorem dX8_nodesIn_45 : decode cX8_nodesIn 45 = .ok (.aload_n 0, 1) := by decide +kernel
theorem dX8_nodesIn_46 : decode cX8_nodesIn 46 = .ok (.invokevirtual 226, 3) := by decide +kernel
theorem dX8_nodesIn_49 : decode cX8_nodesIn 49 = .ok (.invokestatic 238, 3) := by decide +kernel
theorem dX8_nodesIn_52 : decode cX8_nodesIn 52 = .ok (.iadd, 1) := by decide +kernel
theorem dX8_nodesIn_53 : decode cX8_nodesIn 53 = .ok (.istore_n 2, 1) := by decide +kernel
theorem dX8_nodesIn_54 : decode cX8_nodesIn 54 = .ok (.iinc 3 1, 3) := by decide +kernel
theorem dX8_nodesIn_57 : decode cX8_nodesIn 57 = .ok (.goto (-29), 3) := by decide +kernel
theorem dX8_nodesIn_60 : decode cX8_nodesIn 60 = .ok (.iload_n 2, 1) := by decide +kernel
theorem dX8_nodesIn_61 : decode cX8_nodesIn 61 = .ok (.ireturn, 1) := by decide +kernel
theorem dX8_depthIn_0 : decode cX8_depthIn 0 = .ok (.aload_n 0, 1) := by decide +kernel
theorem dX8_depthIn_1 : decode cX8_depthIn 1 = .ok (.iconst 0, 1) := by decide +kernel
theorem dX8_depthIn_2 : decode cX8_depthIn 2 = .ok (.iload_n 1, 1) := by decide +kernel
theorem dX8_depthIn_3 : decode cX8_depthIn 3 = .ok (.invokevirtual 168, 3) := by decide +kernel
theorem dX8_depthIn_6 : decode cX8_depthIn 6 = .ok (.ifCond .ne 5, 3) := by decide +kernel
theorem dX8_depthIn_9 : decode cX8_depthIn 9 = .ok (.iconst 0, 1) := by decide +kernel
theorem dX8_depthIn_10 : decode cX8_depthIn 10 = .ok (.ireturn, 1) := by decide +kernel
theorem dX8_depthIn_11 : decode cX8_depthIn 11 = .ok (.aload_n 0, 1) := by decide +kernel
theorem dX8_depthIn_12 : decode cX8_depthIn 12 = .ok (.iload_n 1, 1) := by decide +kernel
theorem dX8_depthIn_13 : decode cX8_depthIn 13 = .ok (.invokevirtual 235, 3) := by decide +kernel
theorem dX8_depthIn_16 : decode cX8_depthIn 16 = .ok (.aload_n 0, 1) := by decide +kernel
theorem dX8_depthIn_17 : decode cX8_depthIn 17 = .ok (.invokevirtual 229, 3) := by decide +kernel
theorem dX8_depthIn_20 : decode cX8_depthIn 20 = .ok (.invokestatic 241, 3) := by decide +kernel
theorem dX8_depthIn_23 : decode cX8_depthIn 23 = .ok (.istore_n 2, 1) := by decide +kernel
theorem dX8_depthIn_24 : decode cX8_depthIn 24 = .ok (.iconst 0, 1) := by decide +kernel
theorem dX8_depthIn_25 : decode cX8_depthIn 25 = .ok (.istore_n 3, 1) := by decide +kernel
theorem dX8_depthIn_26 : decode cX8_depthIn 26 = .ok (.iload_n 3, 1) := by decide +kernel
theorem dX8_depthIn_27 : decode cX8_depthIn 27 = .ok (.iconst 1, 1) := by decide +kernel
theorem dX8_depthIn_28 : decode cX8_depthIn 28 = .ok (.aload_n 0, 1) := by decide +kernel
theorem dX8_depthIn_29 : decode cX8_depthIn 29 = .ok (.invokevirtual 229, 3) := by decide +kernel
theorem dX8_depthIn_32 : decode cX8_depthIn 32 = .ok (.ishl, 1) := by decide +kernel
theorem dX8_depthIn_33 : decode cX8_depthIn 33 = .ok (.if_icmp .ge 27, 3) := by decide +kernel
theorem dX8_depthIn_36 : decode cX8_depthIn 36 = .ok (.iload_n 2, 1) := by decide +kernel
theorem dX8_depthIn_37 : decode cX8_depthIn 37 = .ok (.aload_n 0, 1) := by decide +kernel
theorem dX8_depthIn_38 : decode cX8_depthIn 38 = .ok (.iload_n 1, 1) := by decide +kernel
theorem dX8_depthIn_39 : decode cX8_depthIn 39 = .ok (.iload_n 3, 1) := by decide +kernel
theorem dX8_depthIn_40 : decode cX8_depthIn 40 = .ok (.invokevirtual 232, 3) := by decide +kernel
theorem dX8_depthIn_43 : decode cX8_depthIn 43 = .ok (.aload_n 0, 1) := by decide +kernel
theorem dX8_depthIn_44 : decode cX8_depthIn 44 = .ok (.invokevirtual 226, 3) := by decide +kernel
theorem dX8_depthIn_47 : decode cX8_depthIn 47 = .ok (.invokestatic 241, 3) := by decide +kernel
theorem dX8_depthIn_50 : decode cX8_depthIn 50 = .ok (.invokestatic 214, 3) := by decide +kernel
theorem dX8_depthIn_53 : decode cX8_depthIn 53 = .ok (.istore_n 2, 1) := by decide +kernel
theorem dX8_depthIn_54 : decode cX8_depthIn 54 = .ok (.iinc 3 1, 3) := by decide +kernel
theorem dX8_depthIn_57 : decode cX8_depthIn 57 = .ok (.goto (-31), 3) := by decide +kernel
theorem dX8_depthIn_60 : decode cX8_depthIn 60 = .ok (.iconst 1, 1) := by decide +kernel
theorem dX8_depthIn_61 : decode cX8_depthIn 61 = .ok (.iload_n 2, 1) := by decide +kernel
theorem dX8_depthIn_62 : decode cX8_depthIn 62 = .ok (.iadd, 1) := by decide +kernel
theorem dX8_depthIn_63 : decode cX8_depthIn 63 = .ok (.ireturn, 1) := by decide +kernel
theorem dX8_stepsIn_0 : decode cX8_stepsIn 0 = .ok (.iload_n 0, 1) := by decide +kernel
theorem dX8_stepsIn_1 : decode cX8_stepsIn 1 = .ok (.istore_n 3, 1) := by decide +kernel
theorem dX8_stepsIn_2 : decode cX8_stepsIn 2 = .ok (.iload_n 1, 1) := by decide +kernel
theorem dX8_stepsIn_3 : decode cX8_stepsIn 3 = .ok (.istore 4, 2) := by decide +kernel
theorem dX8_stepsIn_5 : decode cX8_stepsIn 5 = .ok (.iload_n 2, 1) := by decide +kernel
theorem dX8_stepsIn_6 : decode cX8_stepsIn 6 = .ok (.istore 5, 2) := by decide +kernel
theorem dX8_stepsIn_8 : decode cX8_stepsIn 8 = .ok (.iconst 1, 1) := by decide +kernel
theorem dX8_stepsIn_9 : decode cX8_stepsIn 9 = .ok (.istore 6, 2) := by decide +kernel
theorem dX8_stepsIn_11 : decode cX8_stepsIn 11 = .ok (.iload_n 3, 1) := by decide +kernel
theorem dX8_stepsIn_12 : decode cX8_stepsIn 12 = .ok (.ifCond .eq 143, 3) := by decide +kernel
theorem dX8_stepsIn_15 : decode cX8_stepsIn 15 = .ok (.iload 4, 2) := by decide +kernel
theorem dX8_stepsIn_17 : decode cX8_stepsIn 17 = .ok (.iconst 1, 1) := by decide +kernel
theorem dX8_stepsIn_18 : decode cX8_stepsIn 18 = .ok (.if_icmp .le 137, 3) := by decide +kernel
theorem dX8_stepsIn_21 : decode cX8_stepsIn 21 = .ok (.iload 5, 2) := by decide +kernel
theorem dX8_stepsIn_23 : decode cX8_stepsIn 23 = .ok (.iload_n 3, 1) := by decide +kernel
theorem dX8_stepsIn_24 : decode cX8_stepsIn 24 = .ok (.invokestatic 244, 3) := by decide +kernel
theorem dX8_stepsIn_27 : decode cX8_stepsIn 27 = .ok (.if_icmp .lt 128, 3) := by decide +kernel
theorem dX8_stepsIn_30 : decode cX8_stepsIn 30 = .ok (.iload 4, 2) := by decide +kernel
theorem dX8_stepsIn_32 : decode cX8_stepsIn 32 = .ok (.iconst 2, 1) := by decide +kernel
theorem dX8_stepsIn_33 : decode cX8_stepsIn 33 = .ok (.idiv, 1) := by decide +kernel
theorem dX8_stepsIn_34 : decode cX8_stepsIn 34 = .ok (.istore 7, 2) := by decide +kernel
theorem dX8_stepsIn_36 : decode cX8_stepsIn 36 = .ok (.iload_n 3, 1) := by decide +kernel
theorem dX8_stepsIn_37 : decode cX8_stepsIn 37 = .ok (.invokestatic 190, 3) := by decide +kernel
theorem dX8_stepsIn_40 : decode cX8_stepsIn 40 = .ok (.istore 8, 2) := by decide +kernel
theorem dX8_stepsIn_42 : decode cX8_stepsIn 42 = .ok (.iload 8, 2) := by decide +kernel
theorem dX8_stepsIn_44 : decode cX8_stepsIn 44 = .ok (.iload 5, 2) := by decide +kernel
theorem dX8_stepsIn_46 : decode cX8_stepsIn 46 = .ok (.iload 7, 2) := by decide +kernel
theorem dX8_stepsIn_48 : decode cX8_stepsIn 48 = .ok (.ishr, 1) := by decide +kernel
theorem dX8_stepsIn_49 : decode cX8_stepsIn 49 = .ok (.iload 7, 2) := by decide +kernel
theorem dX8_stepsIn_51 : decode cX8_stepsIn 51 = .ok (.invokestatic 186, 3) := by decide +kernel
theorem dX8_stepsIn_54 : decode cX8_stepsIn 54 = .ok (.istore 9, 2) := by decide +kernel
theorem dX8_stepsIn_56 : decode cX8_stepsIn 56 = .ok (.iload 9, 2) := by decide +kernel
theorem dX8_stepsIn_58 : decode cX8_stepsIn 58 = .ok (.ifCond .eq 24, 3) := by decide +kernel
theorem dX8_stepsIn_61 : decode cX8_stepsIn 61 = .ok (.iload 9, 2) := by decide +kernel
theorem dX8_stepsIn_63 : decode cX8_stepsIn 63 = .ok (.invokestatic 247, 3) := by decide +kernel
theorem dX8_stepsIn_66 : decode cX8_stepsIn 66 = .ok (.iload 5, 2) := by decide +kernel
theorem dX8_stepsIn_68 : decode cX8_stepsIn 68 = .ok (.iconst 1, 1) := by decide +kernel
theorem dX8_stepsIn_69 : decode cX8_stepsIn 69 = .ok (.iload 7, 2) := by decide +kernel
theorem dX8_stepsIn_71 : decode cX8_stepsIn 71 = .ok (.ishl, 1) := by decide +kernel
theorem dX8_stepsIn_72 : decode cX8_stepsIn 72 = .ok (.iconst 1, 1) := by decide +kernel
theorem dX8_stepsIn_73 : decode cX8_stepsIn 73 = .ok (.isub, 1) := by decide +kernel
theorem dX8_stepsIn_74 : decode cX8_stepsIn 74 = .ok (.iand, 1) := by decide +kernel
theorem dX8_stepsIn_75 : decode cX8_stepsIn 75 = .ok (.if_icmp .le 7, 3) := by decide +kernel
theorem dX8_stepsIn_78 : decode cX8_stepsIn 78 = .ok (.iconst 1, 1) := by decide +kernel
theorem dX8_stepsIn_79 : decode cX8_stepsIn 79 = .ok (.goto 4, 3) := by decide +kernel
theorem dX8_stepsIn_82 : decode cX8_stepsIn 82 = .ok (.iconst 0, 1) := by decide +kernel
theorem dX8_stepsIn_83 : decode cX8_stepsIn 83 = .ok (.istore 10, 2) := by decide +kernel
theorem dX8_stepsIn_85 : decode cX8_stepsIn 85 = .ok (.iload 10, 2) := by decide +kernel
theorem dX8_stepsIn_87 : decode cX8_stepsIn 87 = .ok (.ifCond .eq 8, 3) := by decide +kernel
theorem dX8_stepsIn_90 : decode cX8_stepsIn 90 = .ok (.iload 9, 2) := by decide +kernel
theorem dX8_stepsIn_92 : decode cX8_stepsIn 92 = .ok (.goto 15, 3) := by decide +kernel
theorem dX8_stepsIn_95 : decode cX8_stepsIn 95 = .ok (.iload 8, 2) := by decide +kernel
theorem dX8_stepsIn_97 : decode cX8_stepsIn 97 = .ok (.iload 7, 2) := by decide +kernel
theorem dX8_stepsIn_99 : decode cX8_stepsIn 99 = .ok (.iload 4, 2) := by decide +kernel
theorem dX8_stepsIn_101 : decode cX8_stepsIn 101 = .ok (.iload 7, 2) := by decide +kernel
theorem dX8_stepsIn_103 : decode cX8_stepsIn 103 = .ok (.isub, 1) := by decide +kernel
theorem dX8_stepsIn_104 : decode cX8_stepsIn 104 = .ok (.invokestatic 193, 3) := by decide +kernel
theorem dX8_stepsIn_107 : decode cX8_stepsIn 107 = .ok (.istore_n 3, 1) := by decide +kernel
theorem dX8_stepsIn_108 : decode cX8_stepsIn 108 = .ok (.iload 10, 2) := by decide +kernel
theorem dX8_stepsIn_110 : decode cX8_stepsIn 110 = .ok (.ifCond .eq 15, 3) := by decide +kernel
theorem dX8_stepsIn_113 : decode cX8_stepsIn 113 = .ok (.iload 5, 2) := by decide +kernel
theorem dX8_stepsIn_115 : decode cX8_stepsIn 115 = .ok (.iconst 1, 1) := by decide +kernel
theorem dX8_stepsIn_116 : decode cX8_stepsIn 116 = .ok (.iload 7, 2) := by decide +kernel
theorem dX8_stepsIn_118 : decode cX8_stepsIn 118 = .ok (.ishl, 1) := by decide +kernel
theorem dX8_stepsIn_119 : decode cX8_stepsIn 119 = .ok (.iconst 1, 1) := by decide +kernel
theorem dX8_stepsIn_120 : decode cX8_stepsIn 120 = .ok (.isub, 1) := by decide +kernel
theorem dX8_stepsIn_121 : decode cX8_stepsIn 121 = .ok (.iand, 1) := by decide +kernel
theorem dX8_stepsIn_122 : decode cX8_stepsIn 122 = .ok (.goto 8, 3) := by decide +kernel
theorem dX8_stepsIn_125 : decode cX8_stepsIn 125 = .ok (.iload 5, 2) := by decide +kernel
theorem dX8_stepsIn_127 : decode cX8_stepsIn 127 = .ok (.iload 7, 2) := by decide +kernel
theorem dX8_stepsIn_129 : decode cX8_stepsIn 129 = .ok (.ishr, 1) := by decide +kernel
theorem dX8_stepsIn_130 : decode cX8_stepsIn 130 = .ok (.istore 5, 2) := by decide +kernel
theorem dX8_stepsIn_132 : decode cX8_stepsIn 132 = .ok (.iload 10, 2) := by decide +kernel
theorem dX8_stepsIn_134 : decode cX8_stepsIn 134 = .ok (.ifCond .eq 8, 3) := by decide +kernel
theorem dX8_stepsIn_137 : decode cX8_stepsIn 137 = .ok (.iload 7, 2) := by decide +kernel
theorem dX8_stepsIn_139 : decode cX8_stepsIn 139 = .ok (.goto 8, 3) := by decide +kernel
theorem dX8_stepsIn_142 : decode cX8_stepsIn 142 = .ok (.iload 4, 2) := by decide +kernel
theorem dX8_stepsIn_144 : decode cX8_stepsIn 144 = .ok (.iload 7, 2) := by decide +kernel
theorem dX8_stepsIn_146 : decode cX8_stepsIn 146 = .ok (.isub, 1) := by decide +kernel
theorem dX8_stepsIn_147 : decode cX8_stepsIn 147 = .ok (.istore 4, 2) := by decide +kernel
theorem dX8_stepsIn_149 : decode cX8_stepsIn 149 = .ok (.iinc 6 1, 3) := by decide +kernel
theorem dX8_stepsIn_152 : decode cX8_stepsIn 152 = .ok (.goto (-141), 3) := by decide +kernel
theorem dX8_stepsIn_155 : decode cX8_stepsIn 155 = .ok (.iload 6, 2) := by decide +kernel
theorem dX8_stepsIn_157 : decode cX8_stepsIn 157 = .ok (.ireturn, 1) := by decide +kernel
theorem dX8_steps_0 : decode cX8_steps 0 = .ok (.aload_n 0, 1) := by decide +kernel
theorem dX8_steps_1 : decode cX8_steps 1 = .ok (.iload_n 1, 1) := by decide +kernel
theorem dX8_steps_2 : decode cX8_steps 2 = .ok (.invokevirtual 154, 3) := by decide +kernel
theorem dX8_steps_5 : decode cX8_steps 5 = .ok (.ifCond .eq 12, 3) := by decide +kernel
theorem dX8_steps_8 : decode cX8_steps 8 = .ok (.aload_n 0, 1) := by decide +kernel
theorem dX8_steps_9 : decode cX8_steps 9 = .ok (.iload_n 2, 1) := by decide +kernel
theorem dX8_steps_10 : decode cX8_steps 10 = .ok (.i2l, 1) := by decide +kernel
theorem dX8_steps_11 : decode cX8_steps 11 = .ok (.invokevirtual 157, 3) := by decide +kernel
theorem dX8_steps_14 : decode cX8_steps 14 = .ok (.ifCond .ne 6, 3) := by decide +kernel
theorem dX8_steps_17 : decode cX8_steps 17 = .ok (.ldc 49, 2) := by decide +kernel
theorem dX8_steps_19 : decode cX8_steps 19 = .ok (.ireturn, 1) := by decide +kernel
theorem dX8_steps_20 : decode cX8_steps 20 = .ok (.aload_n 0, 1) := by decide +kernel
theorem dX8_steps_21 : decode cX8_steps 21 = .ok (.iconst 0, 1) := by decide +kernel
theorem dX8_steps_22 : decode cX8_steps 22 = .ok (.iload_n 1, 1) := by decide +kernel
theorem dX8_steps_23 : decode cX8_steps 23 = .ok (.invokevirtual 168, 3) := by decide +kernel
theorem dX8_steps_26 : decode cX8_steps 26 = .ok (.ifCond .eq 12, 3) := by decide +kernel
theorem dX8_steps_29 : decode cX8_steps 29 = .ok (.iload_n 2, 1) := by decide +kernel
theorem dX8_steps_30 : decode cX8_steps 30 = .ok (.aload_n 0, 1) := by decide +kernel
theorem dX8_steps_31 : decode cX8_steps 31 = .ok (.iload_n 1, 1) := by decide +kernel
theorem dX8_steps_32 : decode cX8_steps 32 = .ok (.invokevirtual 147, 3) := by decide +kernel
theorem dX8_steps_35 : decode cX8_steps 35 = .ok (.if_icmp .ge 5, 3) := by decide +kernel
theorem dX8_steps_38 : decode cX8_steps 38 = .ok (.iconst 1, 1) := by decide +kernel
theorem dX8_steps_39 : decode cX8_steps 39 = .ok (.ireturn, 1) := by decide +kernel
theorem dX8_steps_40 : decode cX8_steps 40 = .ok (.aload_n 0, 1) := by decide +kernel
theorem dX8_steps_41 : decode cX8_steps 41 = .ok (.invokevirtual 226, 3) := by decide +kernel
theorem dX8_steps_44 : decode cX8_steps 44 = .ok (.istore_n 3, 1) := by decide +kernel
theorem dX8_steps_45 : decode cX8_steps 45 = .ok (.aload_n 0, 1) := by decide +kernel
theorem dX8_steps_46 : decode cX8_steps 46 = .ok (.iload_n 1, 1) := by decide +kernel
theorem dX8_steps_47 : decode cX8_steps 47 = .ok (.iload_n 2, 1) := by decide +kernel
theorem dX8_steps_48 : decode cX8_steps 48 = .ok (.iload_n 3, 1) := by decide +kernel
theorem dX8_steps_49 : decode cX8_steps 49 = .ok (.ishr, 1) := by decide +kernel
theorem dX8_steps_50 : decode cX8_steps 50 = .ok (.invokevirtual 232, 3) := by decide +kernel
theorem dX8_steps_53 : decode cX8_steps 53 = .ok (.istore 4, 2) := by decide +kernel
theorem dX8_steps_55 : decode cX8_steps 55 = .ok (.iload_n 2, 1) := by decide +kernel
theorem dX8_steps_56 : decode cX8_steps 56 = .ok (.iconst 1, 1) := by decide +kernel
theorem dX8_steps_57 : decode cX8_steps 57 = .ok (.iload_n 3, 1) := by decide +kernel
theorem dX8_steps_58 : decode cX8_steps 58 = .ok (.ishl, 1) := by decide +kernel
theorem dX8_steps_59 : decode cX8_steps 59 = .ok (.iconst 1, 1) := by decide +kernel
theorem dX8_steps_60 : decode cX8_steps 60 = .ok (.isub, 1) := by decide +kernel
theorem dX8_steps_61 : decode cX8_steps 61 = .ok (.iand, 1) := by decide +kernel
theorem dX8_steps_62 : decode cX8_steps 62 = .ok (.istore 5, 2) := by decide +kernel
theorem dX8_steps_64 : decode cX8_steps 64 = .ok (.iconst 1, 1) := by decide +kernel
theorem dX8_steps_65 : decode cX8_steps 65 = .ok (.iload 4, 2) := by decide +kernel
theorem dX8_steps_67 : decode cX8_steps 67 = .ok (.ifCond .eq 24, 3) := by decide +kernel
theorem dX8_steps_70 : decode cX8_steps 70 = .ok (.iload 4, 2) := by decide +kernel
theorem dX8_steps_72 : decode cX8_steps 72 = .ok (.invokestatic 247, 3) := by decide +kernel
theorem dX8_steps_75 : decode cX8_steps 75 = .ok (.iload 5, 2) := by decide +kernel
theorem dX8_steps_77 : decode cX8_steps 77 = .ok (.if_icmp .le 14, 3) := by decide +kernel
theorem dX8_steps_80 : decode cX8_steps 80 = .ok (.iload 4, 2) := by decide +kernel
theorem dX8_steps_82 : decode cX8_steps 82 = .ok (.iload_n 3, 1) := by decide +kernel
theorem dX8_steps_83 : decode cX8_steps 83 = .ok (.iload 5, 2) := by decide +kernel
theorem dX8_steps_85 : decode cX8_steps 85 = .ok (.invokestatic 250, 3) := by decide +kernel
theorem dX8_steps_88 : decode cX8_steps 88 = .ok (.goto 18, 3) := by decide +kernel
theorem dX8_steps_91 : decode cX8_steps 91 = .ok (.aload_n 0, 1) := by decide +kernel
theorem dX8_steps_92 : decode cX8_steps 92 = .ok (.iload_n 1, 1) := by decide +kernel
theorem dX8_steps_93 : decode cX8_steps 93 = .ok (.invokevirtual 235, 3) := by decide +kernel
theorem dX8_steps_96 : decode cX8_steps 96 = .ok (.aload_n 0, 1) := by decide +kernel
theorem dX8_steps_97 : decode cX8_steps 97 = .ok (.invokevirtual 229, 3) := by decide +kernel
theorem dX8_steps_100 : decode cX8_steps 100 = .ok (.iload_n 2, 1) := by decide +kernel
theorem dX8_steps_101 : decode cX8_steps 101 = .ok (.iload_n 3, 1) := by decide +kernel
theorem dX8_steps_102 : decode cX8_steps 102 = .ok (.ishr, 1) := by decide +kernel
theorem dX8_steps_103 : decode cX8_steps 103 = .ok (.invokestatic 250, 3) := by decide +kernel
theorem dX8_steps_106 : decode cX8_steps 106 = .ok (.iadd, 1) := by decide +kernel
theorem dX8_steps_107 : decode cX8_steps 107 = .ok (.ireturn, 1) := by decide +kernel
theorem dX8_tree_0 : decode cX8_tree 0 = .ok (.aload_n 0, 1) := by decide +kernel
theorem dX8_tree_1 : decode cX8_tree 1 = .ok (.iload_n 1, 1) := by decide +kernel
theorem dX8_tree_2 : decode cX8_tree 2 = .ok (.invokevirtual 154, 3) := by decide +kernel
theorem dX8_tree_5 : decode cX8_tree 5 = .ok (.ifCond .eq 13, 3) := by decide +kernel
theorem dX8_tree_8 : decode cX8_tree 8 = .ok (.iload_n 2, 1) := by decide +kernel
theorem dX8_tree_9 : decode cX8_tree 9 = .ok (.i2l, 1) := by decide +kernel
theorem dX8_tree_10 : decode cX8_tree 10 = .ok (.lconst 0, 1) := by decide +kernel
theorem dX8_tree_11 : decode cX8_tree 11 = .ok (.lconst 1, 1) := by decide +kernel
theorem dX8_tree_12 : decode cX8_tree 12 = .ok (.invokestatic 39, 3) := by decide +kernel
