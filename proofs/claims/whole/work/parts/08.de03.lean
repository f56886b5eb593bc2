theorem dX8_tree_15 : decode cX8_tree 15 = .ok (.ifCond .ne 8, 3) := by decide +kernel
theorem dX8_tree_18 : decode cX8_tree 18 = .ok (.ldc 49, 2) := by decide +kernel
theorem dX8_tree_20 : decode cX8_tree 20 = .ok (.goto 20, 3) := by decide +kernel
theorem dX8_tree_23 : decode cX8_tree 23 = .ok (.iload_n 2, 1) := by decide +kernel
theorem dX8_tree_24 : decode cX8_tree 24 = .ok (.ifCond .ne 11, 3) := by decide +kernel
theorem dX8_tree_27 : decode cX8_tree 27 = .ok (.aload_n 0, 1) := by decide +kernel
theorem dX8_tree_28 : decode cX8_tree 28 = .ok (.iload_n 1, 1) := by decide +kernel
theorem dX8_tree_29 : decode cX8_tree 29 = .ok (.invokevirtual 253, 3) := by decide +kernel
theorem dX8_tree_32 : decode cX8_tree 32 = .ok (.goto 8, 3) := by decide +kernel
theorem dX8_tree_35 : decode cX8_tree 35 = .ok (.aload_n 0, 1) := by decide +kernel
theorem dX8_tree_36 : decode cX8_tree 36 = .ok (.iload_n 1, 1) := by decide +kernel
theorem dX8_tree_37 : decode cX8_tree 37 = .ok (.invokevirtual 256, 3) := by decide +kernel
theorem dX8_tree_40 : decode cX8_tree 40 = .ok (.ireturn, 1) := by decide +kernel
theorem dX8_nodeTells_0 : decode cX8_nodeTells 0 = .ok (.iload_n 2, 1) := by decide +kernel
theorem dX8_nodeTells_1 : decode cX8_nodeTells 1 = .ok (.ifCond .ne 10, 3) := by decide +kernel
theorem dX8_nodeTells_4 : decode cX8_nodeTells 4 = .ok (.iload_n 0, 1) := by decide +kernel
theorem dX8_nodeTells_5 : decode cX8_nodeTells 5 = .ok (.invokestatic 244, 3) := by decide +kernel
theorem dX8_nodeTells_8 : decode cX8_nodeTells 8 = .ok (.goto 20, 3) := by decide +kernel
theorem dX8_nodeTells_11 : decode cX8_nodeTells 11 = .ok (.iload_n 2, 1) := by decide +kernel
theorem dX8_nodeTells_12 : decode cX8_nodeTells 12 = .ok (.iconst 1, 1) := by decide +kernel
theorem dX8_nodeTells_13 : decode cX8_nodeTells 13 = .ok (.if_icmp .ne 10, 3) := by decide +kernel
theorem dX8_nodeTells_16 : decode cX8_nodeTells 16 = .ok (.iload_n 0, 1) := by decide +kernel
theorem dX8_nodeTells_17 : decode cX8_nodeTells 17 = .ok (.invokestatic 247, 3) := by decide +kernel
theorem dX8_nodeTells_20 : decode cX8_nodeTells 20 = .ok (.goto 8, 3) := by decide +kernel
theorem dX8_nodeTells_23 : decode cX8_nodeTells 23 = .ok (.iload_n 0, 1) := by decide +kernel
theorem dX8_nodeTells_24 : decode cX8_nodeTells 24 = .ok (.iload_n 1, 1) := by decide +kernel
theorem dX8_nodeTells_25 : decode cX8_nodeTells 25 = .ok (.invokestatic 238, 3) := by decide +kernel
theorem dX8_nodeTells_28 : decode cX8_nodeTells 28 = .ok (.ireturn, 1) := by decide +kernel
theorem dX8_cluster_0 : decode cX8_cluster 0 = .ok (.aload_n 0, 1) := by decide +kernel
theorem dX8_cluster_1 : decode cX8_cluster 1 = .ok (.iload_n 1, 1) := by decide +kernel
theorem dX8_cluster_2 : decode cX8_cluster 2 = .ok (.invokevirtual 154, 3) := by decide +kernel
theorem dX8_cluster_5 : decode cX8_cluster 5 = .ok (.ifCond .eq 33, 3) := by decide +kernel
theorem dX8_cluster_8 : decode cX8_cluster 8 = .ok (.iload_n 2, 1) := by decide +kernel
theorem dX8_cluster_9 : decode cX8_cluster 9 = .ok (.i2l, 1) := by decide +kernel
theorem dX8_cluster_10 : decode cX8_cluster 10 = .ok (.lconst 0, 1) := by decide +kernel
theorem dX8_cluster_11 : decode cX8_cluster 11 = .ok (.iconst 1, 1) := by decide +kernel
theorem dX8_cluster_12 : decode cX8_cluster 12 = .ok (.aload_n 0, 1) := by decide +kernel
theorem dX8_cluster_13 : decode cX8_cluster 13 = .ok (.invokevirtual 229, 3) := by decide +kernel
theorem dX8_cluster_16 : decode cX8_cluster 16 = .ok (.ishl, 1) := by decide +kernel
theorem dX8_cluster_17 : decode cX8_cluster 17 = .ok (.iconst 1, 1) := by decide +kernel
theorem dX8_cluster_18 : decode cX8_cluster 18 = .ok (.isub, 1) := by decide +kernel
theorem dX8_cluster_19 : decode cX8_cluster 19 = .ok (.i2l, 1) := by decide +kernel
theorem dX8_cluster_20 : decode cX8_cluster 20 = .ok (.invokestatic 39, 3) := by decide +kernel
theorem dX8_cluster_23 : decode cX8_cluster 23 = .ok (.ifCond .eq 15, 3) := by decide +kernel
theorem dX8_cluster_26 : decode cX8_cluster 26 = .ok (.iload_n 3, 1) := by decide +kernel
theorem dX8_cluster_27 : decode cX8_cluster 27 = .ok (.i2l, 1) := by decide +kernel
theorem dX8_cluster_28 : decode cX8_cluster 28 = .ok (.lconst 0, 1) := by decide +kernel
theorem dX8_cluster_29 : decode cX8_cluster 29 = .ok (.ldc2_w 47, 3) := by decide +kernel
theorem dX8_cluster_32 : decode cX8_cluster 32 = .ok (.invokestatic 39, 3) := by decide +kernel
theorem dX8_cluster_35 : decode cX8_cluster 35 = .ok (.ifCond .ne 6, 3) := by decide +kernel
theorem dX8_cluster_38 : decode cX8_cluster 38 = .ok (.ldc 49, 2) := by decide +kernel
theorem dX8_cluster_40 : decode cX8_cluster 40 = .ok (.ireturn, 1) := by decide +kernel
theorem dX8_cluster_41 : decode cX8_cluster 41 = .ok (.aload_n 0, 1) := by decide +kernel
theorem dX8_cluster_42 : decode cX8_cluster 42 = .ok (.iload_n 1, 1) := by decide +kernel
theorem dX8_cluster_43 : decode cX8_cluster 43 = .ok (.iload_n 2, 1) := by decide +kernel
theorem dX8_cluster_44 : decode cX8_cluster 44 = .ok (.invokevirtual 232, 3) := by decide +kernel
theorem dX8_cluster_47 : decode cX8_cluster 47 = .ok (.aload_n 0, 1) := by decide +kernel
theorem dX8_cluster_48 : decode cX8_cluster 48 = .ok (.invokevirtual 226, 3) := by decide +kernel
theorem dX8_cluster_51 : decode cX8_cluster 51 = .ok (.iload_n 3, 1) := by decide +kernel
theorem dX8_cluster_52 : decode cX8_cluster 52 = .ok (.invokestatic 259, 3) := by decide +kernel
theorem dX8_cluster_55 : decode cX8_cluster 55 = .ok (.ireturn, 1) := by decide +kernel
theorem dX8_summary_0 : decode cX8_summary 0 = .ok (.aload_n 0, 1) := by decide +kernel
theorem dX8_summary_1 : decode cX8_summary 1 = .ok (.iload_n 1, 1) := by decide +kernel
theorem dX8_summary_2 : decode cX8_summary 2 = .ok (.invokevirtual 154, 3) := by decide +kernel
theorem dX8_summary_5 : decode cX8_summary 5 = .ok (.ifCond .eq 15, 3) := by decide +kernel
theorem dX8_summary_8 : decode cX8_summary 8 = .ok (.iload_n 2, 1) := by decide +kernel
theorem dX8_summary_9 : decode cX8_summary 9 = .ok (.i2l, 1) := by decide +kernel
theorem dX8_summary_10 : decode cX8_summary 10 = .ok (.lconst 0, 1) := by decide +kernel
theorem dX8_summary_11 : decode cX8_summary 11 = .ok (.ldc2_w 47, 3) := by decide +kernel
theorem dX8_summary_14 : decode cX8_summary 14 = .ok (.invokestatic 39, 3) := by decide +kernel
theorem dX8_summary_17 : decode cX8_summary 17 = .ok (.ifCond .ne 8, 3) := by decide +kernel
theorem dX8_summary_20 : decode cX8_summary 20 = .ok (.ldc 49, 2) := by decide +kernel
theorem dX8_summary_22 : decode cX8_summary 22 = .ok (.goto 16, 3) := by decide +kernel
theorem dX8_summary_25 : decode cX8_summary 25 = .ok (.aload_n 0, 1) := by decide +kernel
theorem dX8_summary_26 : decode cX8_summary 26 = .ok (.iload_n 1, 1) := by decide +kernel
theorem dX8_summary_27 : decode cX8_summary 27 = .ok (.invokevirtual 235, 3) := by decide +kernel
theorem dX8_summary_30 : decode cX8_summary 30 = .ok (.aload_n 0, 1) := by decide +kernel
theorem dX8_summary_31 : decode cX8_summary 31 = .ok (.invokevirtual 229, 3) := by decide +kernel
theorem dX8_summary_34 : decode cX8_summary 34 = .ok (.iload_n 2, 1) := by decide +kernel
theorem dX8_summary_35 : decode cX8_summary 35 = .ok (.invokestatic 259, 3) := by decide +kernel
theorem dX8_summary_38 : decode cX8_summary 38 = .ok (.ireturn, 1) := by decide +kernel
theorem dX8_wordMany_0 : decode cX8_wordMany 0 = .ok (.aload_n 0, 1) := by decide +kernel
theorem dX8_wordMany_1 : decode cX8_wordMany 1 = .ok (.invokevirtual 127, 3) := by decide +kernel
theorem dX8_wordMany_4 : decode cX8_wordMany 4 = .ok (.bipush 32, 2) := by decide +kernel
theorem dX8_wordMany_6 : decode cX8_wordMany 6 = .ok (.if_icmp .ge 7, 3) := by decide +kernel
theorem dX8_wordMany_9 : decode cX8_wordMany 9 = .ok (.iconst 1, 1) := by decide +kernel
theorem dX8_wordMany_10 : decode cX8_wordMany 10 = .ok (.goto 10, 3) := by decide +kernel
theorem dX8_wordMany_13 : decode cX8_wordMany 13 = .ok (.aload_n 0, 1) := by decide +kernel
theorem dX8_wordMany_14 : decode cX8_wordMany 14 = .ok (.invokevirtual 127, 3) := by decide +kernel
theorem dX8_wordMany_17 : decode cX8_wordMany 17 = .ok (.bipush 32, 2) := by decide +kernel
theorem dX8_wordMany_19 : decode cX8_wordMany 19 = .ok (.idiv, 1) := by decide +kernel
theorem dX8_wordMany_20 : decode cX8_wordMany 20 = .ok (.ireturn, 1) := by decide +kernel
theorem dX8_isWord_0 : decode cX8_isWord 0 = .ok (.aload_n 0, 1) := by decide +kernel
theorem dX8_isWord_1 : decode cX8_isWord 1 = .ok (.iload_n 1, 1) := by decide +kernel
theorem dX8_isWord_2 : decode cX8_isWord 2 = .ok (.invokevirtual 154, 3) := by decide +kernel
theorem dX8_isWord_5 : decode cX8_isWord 5 = .ok (.ifCond .eq 44, 3) := by decide +kernel
theorem dX8_isWord_8 : decode cX8_isWord 8 = .ok (.iload_n 2, 1) := by decide +kernel
theorem dX8_isWord_9 : decode cX8_isWord 9 = .ok (.ifCond .ne 19, 3) := by decide +kernel
theorem dX8_isWord_12 : decode cX8_isWord 12 = .ok (.iload_n 3, 1) := by decide +kernel
theorem dX8_isWord_13 : decode cX8_isWord 13 = .ok (.i2l, 1) := by decide +kernel
theorem dX8_isWord_14 : decode cX8_isWord 14 = .ok (.lconst 0, 1) := by decide +kernel
theorem dX8_isWord_15 : decode cX8_isWord 15 = .ok (.aload_n 0, 1) := by decide +kernel
theorem dX8_isWord_16 : decode cX8_isWord 16 = .ok (.invokevirtual 262, 3) := by decide +kernel
theorem dX8_isWord_19 : decode cX8_isWord 19 = .ok (.iconst 1, 1) := by decide +kernel
theorem dX8_isWord_20 : decode cX8_isWord 20 = .ok (.isub, 1) := by decide +kernel
theorem dX8_isWord_21 : decode cX8_isWord 21 = .ok (.i2l, 1) := by decide +kernel
theorem dX8_isWord_22 : decode cX8_isWord 22 = .ok (.invokestatic 39, 3) := by decide +kernel
theorem dX8_isWord_25 : decode cX8_isWord 25 = .ok (.ifCond .ne 20, 3) := by decide +kernel
theorem dX8_isWord_28 : decode cX8_isWord 28 = .ok (.iload_n 2, 1) := by decide +kernel
theorem dX8_isWord_29 : decode cX8_isWord 29 = .ok (.iconst 1, 1) := by decide +kernel
theorem dX8_isWord_30 : decode cX8_isWord 30 = .ok (.if_icmp .ne 19, 3) := by decide +kernel
theorem dX8_isWord_33 : decode cX8_isWord 33 = .ok (.iload_n 3, 1) := by decide +kernel
theorem dX8_isWord_34 : decode cX8_isWord 34 = .ok (.ifCond .ne 15, 3) := by decide +kernel
theorem dX8_isWord_37 : decode cX8_isWord 37 = .ok (.aload_n 0, 1) := by decide +kernel
theorem dX8_isWord_38 : decode cX8_isWord 38 = .ok (.invokevirtual 262, 3) := by decide +kernel
theorem dX8_isWord_41 : decode cX8_isWord 41 = .ok (.iconst 1, 1) := by decide +kernel
theorem dX8_isWord_42 : decode cX8_isWord 42 = .ok (.if_icmp .le 7, 3) := by decide +kernel
theorem dX8_isWord_45 : decode cX8_isWord 45 = .ok (.iconst 1, 1) := by decide +kernel
theorem dX8_isWord_46 : decode cX8_isWord 46 = .ok (.goto 4, 3) := by decide +kernel
theorem dX8_isWord_49 : decode cX8_isWord 49 = .ok (.iconst 0, 1) := by decide +kernel
theorem dX8_isWord_50 : decode cX8_isWord 50 = .ok (.ireturn, 1) := by decide +kernel
theorem dX8_wordOf_0 : decode cX8_wordOf 0 = .ok (.iload_n 2, 1) := by decide +kernel
theorem dX8_wordOf_1 : decode cX8_wordOf 1 = .ok (.ifCond .ne 18, 3) := by decide +kernel
theorem dX8_wordOf_4 : decode cX8_wordOf 4 = .ok (.aload_n 0, 1) := by decide +kernel
theorem dX8_wordOf_5 : decode cX8_wordOf 5 = .ok (.getfield 7, 3) := by decide +kernel
theorem dX8_wordOf_8 : decode cX8_wordOf 8 = .ok (.bipush 6, 2) := by decide +kernel
theorem dX8_wordOf_10 : decode cX8_wordOf 10 = .ok (.bipush 32, 2) := by decide +kernel
theorem dX8_wordOf_12 : decode cX8_wordOf 12 = .ok (.iload_n 1, 1) := by decide +kernel
theorem dX8_wordOf_13 : decode cX8_wordOf 13 = .ok (.imul, 1) := by decide +kernel
theorem dX8_wordOf_14 : decode cX8_wordOf 14 = .ok (.iadd, 1) := by decide +kernel
theorem dX8_wordOf_15 : decode cX8_wordOf 15 = .ok (.iload_n 3, 1) := by decide +kernel
theorem dX8_wordOf_16 : decode cX8_wordOf 16 = .ok (.iadd, 1) := by decide +kernel
theorem dX8_wordOf_17 : decode cX8_wordOf 17 = .ok (.iaload, 1) := by decide +kernel
theorem dX8_wordOf_18 : decode cX8_wordOf 18 = .ok (.ireturn, 1) := by decide +kernel
theorem dX8_wordOf_19 : decode cX8_wordOf 19 = .ok (.iconst 0, 1) := by decide +kernel
theorem dX8_wordOf_20 : decode cX8_wordOf 20 = .ok (.istore 4, 2) := by decide +kernel
theorem dX8_wordOf_22 : decode cX8_wordOf 22 = .ok (.iconst 0, 1) := by decide +kernel
theorem dX8_wordOf_23 : decode cX8_wordOf 23 = .ok (.istore 5, 2) := by decide +kernel
theorem dX8_wordOf_25 : decode cX8_wordOf 25 = .ok (.iload 5, 2) := by decide +kernel
theorem dX8_wordOf_27 : decode cX8_wordOf 27 = .ok (.aload_n 0, 1) := by decide +kernel
theorem dX8_wordOf_28 : decode cX8_wordOf 28 = .ok (.invokevirtual 262, 3) := by decide +kernel
theorem dX8_wordOf_31 : decode cX8_wordOf 31 = .ok (.if_icmp .ge 40, 3) := by decide +kernel
theorem dX8_wordOf_34 : decode cX8_wordOf 34 = .ok (.iload 4, 2) := by decide +kernel
theorem dX8_wordOf_36 : decode cX8_wordOf 36 = .ok (.aload_n 0, 1) := by decide +kernel
theorem dX8_wordOf_37 : decode cX8_wordOf 37 = .ok (.getfield 7, 3) := by decide +kernel
theorem dX8_wordOf_40 : decode cX8_wordOf 40 = .ok (.bipush 6, 2) := by decide +kernel
theorem dX8_wordOf_42 : decode cX8_wordOf 42 = .ok (.bipush 32, 2) := by decide +kernel
theorem dX8_wordOf_44 : decode cX8_wordOf 44 = .ok (.iload_n 1, 1) := by decide +kernel
theorem dX8_wordOf_45 : decode cX8_wordOf 45 = .ok (.imul, 1) := by decide +kernel
theorem dX8_wordOf_46 : decode cX8_wordOf 46 = .ok (.iadd, 1) := by decide +kernel
theorem dX8_wordOf_47 : decode cX8_wordOf 47 = .ok (.iload 5, 2) := by decide +kernel
theorem dX8_wordOf_49 : decode cX8_wordOf 49 = .ok (.iadd, 1) := by decide +kernel
theorem dX8_wordOf_50 : decode cX8_wordOf 50 = .ok (.iaload, 1) := by decide +kernel
theorem dX8_wordOf_51 : decode cX8_wordOf 51 = .ok (.ifCond .ne 7, 3) := by decide +kernel
theorem dX8_wordOf_54 : decode cX8_wordOf 54 = .ok (.iconst 0, 1) := by decide +kernel
theorem dX8_wordOf_55 : decode cX8_wordOf 55 = .ok (.goto 7, 3) := by decide +kernel
theorem dX8_wordOf_58 : decode cX8_wordOf 58 = .ok (.iconst 1, 1) := by decide +kernel
theorem dX8_wordOf_59 : decode cX8_wordOf 59 = .ok (.iload 5, 2) := by decide +kernel
theorem dX8_wordOf_61 : decode cX8_wordOf 61 = .ok (.ishl, 1) := by decide +kernel
theorem dX8_wordOf_62 : decode cX8_wordOf 62 = .ok (.ior, 1) := by decide +kernel
theorem dX8_wordOf_63 : decode cX8_wordOf 63 = .ok (.istore 4, 2) := by decide +kernel
theorem dX8_wordOf_65 : decode cX8_wordOf 65 = .ok (.iinc 5 1, 3) := by decide +kernel
theorem dX8_wordOf_68 : decode cX8_wordOf 68 = .ok (.goto (-43), 3) := by decide +kernel
theorem dX8_wordOf_71 : decode cX8_wordOf 71 = .ok (.iload 4, 2) := by decide +kernel
theorem dX8_wordOf_73 : decode cX8_wordOf 73 = .ok (.ireturn, 1) := by decide +kernel
theorem dX8_word_0 : decode cX8_word 0 = .ok (.aload_n 0, 1) := by decide +kernel
theorem dX8_word_1 : decode cX8_word 1 = .ok (.iload_n 1, 1) := by decide +kernel
theorem dX8_word_2 : decode cX8_word 2 = .ok (.iload_n 2, 1) := by decide +kernel
theorem dX8_word_3 : decode cX8_word 3 = .ok (.iload_n 3, 1) := by decide +kernel
theorem dX8_word_4 : decode cX8_word 4 = .ok (.invokevirtual 265, 3) := by decide +kernel
theorem dX8_word_7 : decode cX8_word 7 = .ok (.ifCond .eq 13, 3) := by decide +kernel
theorem dX8_word_10 : decode cX8_word 10 = .ok (.aload_n 0, 1) := by decide +kernel
theorem dX8_word_11 : decode cX8_word 11 = .ok (.iload_n 1, 1) := by decide +kernel
theorem dX8_word_12 : decode cX8_word 12 = .ok (.iload_n 2, 1) := by decide +kernel
theorem dX8_word_13 : decode cX8_word 13 = .ok (.iload_n 3, 1) := by decide +kernel
theorem dX8_word_14 : decode cX8_word 14 = .ok (.invokevirtual 268, 3) := by decide +kernel
theorem dX8_word_17 : decode cX8_word 17 = .ok (.goto 5, 3) := by decide +kernel
theorem dX8_word_20 : decode cX8_word 20 = .ok (.ldc 49, 2) := by decide +kernel
theorem dX8_word_22 : decode cX8_word 22 = .ok (.ireturn, 1) := by decide +kernel
theorem dX8_bits_0 : decode cX8_bits 0 = .ok (.aload_n 0, 1) := by decide +kernel
theorem dX8_bits_1 : decode cX8_bits 1 = .ok (.iload_n 1, 1) := by decide +kernel
theorem dX8_bits_2 : decode cX8_bits 2 = .ok (.iload_n 2, 1) := by decide +kernel
theorem dX8_bits_3 : decode cX8_bits 3 = .ok (.iload_n 3, 1) := by decide +kernel
theorem dX8_bits_4 : decode cX8_bits 4 = .ok (.invokevirtual 265, 3) := by decide +kernel
theorem dX8_bits_7 : decode cX8_bits 7 = .ok (.ifCond .eq 16, 3) := by decide +kernel
theorem dX8_bits_10 : decode cX8_bits 10 = .ok (.iload 4, 2) := by decide +kernel
theorem dX8_bits_12 : decode cX8_bits 12 = .ok (.i2l, 1) := by decide +kernel
theorem dX8_bits_13 : decode cX8_bits 13 = .ok (.lconst 0, 1) := by decide +kernel
theorem dX8_bits_14 : decode cX8_bits 14 = .ok (.ldc2_w 47, 3) := by decide +kernel
theorem dX8_bits_17 : decode cX8_bits 17 = .ok (.invokestatic 39, 3) := by decide +kernel
theorem dX8_bits_20 : decode cX8_bits 20 = .ok (.ifCond .ne 6, 3) := by decide +kernel
theorem dX8_bits_23 : decode cX8_bits 23 = .ok (.ldc 49, 2) := by decide +kernel
theorem dX8_bits_25 : decode cX8_bits 25 = .ok (.ireturn, 1) := by decide +kernel
theorem dX8_bits_26 : decode cX8_bits 26 = .ok (.aload_n 0, 1) := by decide +kernel
theorem dX8_bits_27 : decode cX8_bits 27 = .ok (.iload_n 1, 1) := by decide +kernel
theorem dX8_bits_28 : decode cX8_bits 28 = .ok (.iload_n 2, 1) := by decide +kernel
theorem dX8_bits_29 : decode cX8_bits 29 = .ok (.iload_n 3, 1) := by decide +kernel
theorem dX8_bits_30 : decode cX8_bits 30 = .ok (.invokevirtual 268, 3) := by decide +kernel
theorem dX8_bits_33 : decode cX8_bits 33 = .ok (.istore 5, 2) := by decide +kernel
theorem dX8_bits_35 : decode cX8_bits 35 = .ok (.iload 4, 2) := by decide +kernel
theorem dX8_bits_37 : decode cX8_bits 37 = .ok (.ifCond .ne 11, 3) := by decide +kernel
theorem dX8_bits_40 : decode cX8_bits 40 = .ok (.iload 5, 2) := by decide +kernel
theorem dX8_bits_42 : decode cX8_bits 42 = .ok (.invokestatic 247, 3) := by decide +kernel
theorem dX8_bits_45 : decode cX8_bits 45 = .ok (.goto 22, 3) := by decide +kernel
theorem dX8_bits_48 : decode cX8_bits 48 = .ok (.iload 4, 2) := by decide +kernel
theorem dX8_bits_50 : decode cX8_bits 50 = .ok (.iconst 1, 1) := by decide +kernel
theorem dX8_bits_51 : decode cX8_bits 51 = .ok (.if_icmp .ne 11, 3) := by decide +kernel
theorem dX8_bits_54 : decode cX8_bits 54 = .ok (.iload 5, 2) := by decide +kernel
theorem dX8_bits_56 : decode cX8_bits 56 = .ok (.invokestatic 244, 3) := by decide +kernel
theorem dX8_bits_59 : decode cX8_bits 59 = .ok (.goto 8, 3) := by decide +kernel
theorem dX8_bits_62 : decode cX8_bits 62 = .ok (.iload 5, 2) := by decide +kernel
theorem dX8_bits_64 : decode cX8_bits 64 = .ok (.invokestatic 134, 3) := by decide +kernel
theorem dX8_bits_67 : decode cX8_bits 67 = .ok (.ireturn, 1) := by decide +kernel
theorem dX8_floatOf_0 : decode cX8_floatOf 0 = .ok (.iload_n 0, 1) := by decide +kernel
theorem dX8_floatOf_1 : decode cX8_floatOf 1 = .ok (.ifCond .ne 5, 3) := by decide +kernel
theorem dX8_floatOf_4 : decode cX8_floatOf 4 = .ok (.iconst 0, 1) := by decide +kernel
theorem dX8_floatOf_5 : decode cX8_floatOf 5 = .ok (.ireturn, 1) := by decide +kernel
theorem dX8_floatOf_6 : decode cX8_floatOf 6 = .ok (.iload_n 0, 1) := by decide +kernel
theorem dX8_floatOf_7 : decode cX8_floatOf 7 = .ok (.i2l, 1) := by decide +kernel
theorem dX8_floatOf_8 : decode cX8_floatOf 8 = .ok (.lstore_n 2, 1) := by decide +kernel
theorem dX8_floatOf_9 : decode cX8_floatOf 9 = .ok (.iload_n 1, 1) := by decide +kernel
theorem dX8_floatOf_10 : decode cX8_floatOf 10 = .ok (.i2l, 1) := by decide +kernel
theorem dX8_floatOf_11 : decode cX8_floatOf 11 = .ok (.lstore 4, 2) := by decide +kernel
theorem dX8_floatOf_13 : decode cX8_floatOf 13 = .ok (.iconst 0, 1) := by decide +kernel
theorem dX8_floatOf_14 : decode cX8_floatOf 14 = .ok (.istore 6, 2) := by decide +kernel
theorem dX8_floatOf_16 : decode cX8_floatOf 16 = .ok (.lload_n 2, 1) := by decide +kernel
theorem dX8_floatOf_17 : decode cX8_floatOf 17 = .ok (.lload 4, 2) := by decide +kernel
theorem dX8_floatOf_19 : decode cX8_floatOf 19 = .ok (.ldiv, 1) := by decide +kernel
theorem dX8_floatOf_20 : decode cX8_floatOf 20 = .ok (.ldc2_w 271, 3) := by decide +kernel
theorem dX8_floatOf_23 : decode cX8_floatOf 23 = .ok (.lcmp, 1) := by decide +kernel
theorem dX8_floatOf_24 : decode cX8_floatOf 24 = .ok (.ifCond .ge 15, 3) := by decide +kernel
theorem dX8_floatOf_27 : decode cX8_floatOf 27 = .ok (.lload_n 2, 1) := by decide +kernel
theorem dX8_floatOf_28 : decode cX8_floatOf 28 = .ok (.ldc2_w 47, 3) := by decide +kernel
theorem dX8_floatOf_31 : decode cX8_floatOf 31 = .ok (.lmul, 1) := by decide +kernel
theorem dX8_floatOf_32 : decode cX8_floatOf 32 = .ok (.lstore_n 2, 1) := by decide +kernel
theorem dX8_floatOf_33 : decode cX8_floatOf 33 = .ok (.iinc 6 (-1), 3) := by decide +kernel
theorem dX8_floatOf_36 : decode cX8_floatOf 36 = .ok (.goto (-20), 3) := by decide +kernel
theorem dX8_floatOf_39 : decode cX8_floatOf 39 = .ok (.lload_n 2, 1) := by decide +kernel
theorem dX8_floatOf_40 : decode cX8_floatOf 40 = .ok (.lload 4, 2) := by decide +kernel
theorem dX8_floatOf_42 : decode cX8_floatOf 42 = .ok (.ldiv, 1) := by decide +kernel
theorem dX8_floatOf_43 : decode cX8_floatOf 43 = .ok (.ldc2_w 273, 3) := by decide +kernel
theorem dX8_floatOf_46 : decode cX8_floatOf 46 = .ok (.lcmp, 1) := by decide +kernel
theorem dX8_floatOf_47 : decode cX8_floatOf 47 = .ok (.ifCond .lt 17, 3) := by decide +kernel
theorem dX8_floatOf_50 : decode cX8_floatOf 50 = .ok (.lload 4, 2) := by decide +kernel
theorem dX8_floatOf_52 : decode cX8_floatOf 52 = .ok (.ldc2_w 47, 3) := by decide +kernel
theorem dX8_floatOf_55 : decode cX8_floatOf 55 = .ok (.lmul, 1) := by decide +kernel
theorem dX8_floatOf_56 : decode cX8_floatOf 56 = .ok (.lstore 4, 2) := by decide +kernel
theorem dX8_floatOf_58 : decode cX8_floatOf 58 = .ok (.iinc 6 1, 3) := by decide +kernel
theorem dX8_floatOf_61 : decode cX8_floatOf 61 = .ok (.goto (-22), 3) := by decide +kernel
theorem dX8_floatOf_64 : decode cX8_floatOf 64 = .ok (.lload_n 2, 1) := by decide +kernel
theorem dX8_floatOf_65 : decode cX8_floatOf 65 = .ok (.lload 4, 2) := by decide +kernel
theorem dX8_floatOf_67 : decode cX8_floatOf 67 = .ok (.ldiv, 1) := by decide +kernel
theorem dX8_floatOf_68 : decode cX8_floatOf 68 = .ok (.lstore 7, 2) := by decide +kernel
theorem dX8_floatOf_70 : decode cX8_floatOf 70 = .ok (.ldc2_w 47, 3) := by decide +kernel
theorem dX8_floatOf_73 : decode cX8_floatOf 73 = .ok (.lload_n 2, 1) := by decide +kernel
theorem dX8_floatOf_74 : decode cX8_floatOf 74 = .ok (.lload 4, 2) := by decide +kernel
theorem dX8_floatOf_76 : decode cX8_floatOf 76 = .ok (.lrem, 1) := by decide +kernel
theorem dX8_floatOf_77 : decode cX8_floatOf 77 = .ok (.lmul, 1) := by decide +kernel
theorem dX8_floatOf_78 : decode cX8_floatOf 78 = .ok (.lstore 9, 2) := by decide +kernel
theorem dX8_floatOf_80 : decode cX8_floatOf 80 = .ok (.lload 7, 2) := by decide +kernel
theorem dX8_floatOf_82 : decode cX8_floatOf 82 = .ok (.lload 9, 2) := by decide +kernel
theorem dX8_floatOf_84 : decode cX8_floatOf 84 = .ok (.lload 4, 2) := by decide +kernel
theorem dX8_floatOf_86 : decode cX8_floatOf 86 = .ok (.lcmp, 1) := by decide +kernel
theorem dX8_floatOf_87 : decode cX8_floatOf 87 = .ok (.ifCond .gt 22, 3) := by decide +kernel
theorem dX8_floatOf_90 : decode cX8_floatOf 90 = .ok (.lload 9, 2) := by decide +kernel
theorem dX8_floatOf_92 : decode cX8_floatOf 92 = .ok (.lload 4, 2) := by decide +kernel
theorem dX8_floatOf_94 : decode cX8_floatOf 94 = .ok (.lcmp, 1) := by decide +kernel
theorem dX8_floatOf_95 : decode cX8_floatOf 95 = .ok (.ifCond .ne 18, 3) := by decide +kernel
theorem dX8_floatOf_98 : decode cX8_floatOf 98 = .ok (.lload 7, 2) := by decide +kernel
theorem dX8_floatOf_100 : decode cX8_floatOf 100 = .ok (.ldc2_w 47, 3) := by decide +kernel
theorem dX8_floatOf_103 : decode cX8_floatOf 103 = .ok (.lrem, 1) := by decide +kernel
theorem dX8_floatOf_104 : decode cX8_floatOf 104 = .ok (.lconst 1, 1) := by decide +kernel
theorem dX8_floatOf_105 : decode cX8_floatOf 105 = .ok (.lcmp, 1) := by decide +kernel
theorem dX8_floatOf_106 : decode cX8_floatOf 106 = .ok (.ifCond .ne 7, 3) := by decide +kernel
theorem dX8_floatOf_109 : decode cX8_floatOf 109 = .ok (.lconst 1, 1) := by decide +kernel
theorem dX8_floatOf_110 : decode cX8_floatOf 110 = .ok (.goto 4, 3) := by decide +kernel
theorem dX8_floatOf_113 : decode cX8_floatOf 113 = .ok (.lconst 0, 1) := by decide +kernel
theorem dX8_floatOf_114 : decode cX8_floatOf 114 = .ok (.ladd, 1) := by decide +kernel
theorem dX8_floatOf_115 : decode cX8_floatOf 115 = .ok (.lstore 7, 2) := by decide +kernel
theorem dX8_floatOf_117 : decode cX8_floatOf 117 = .ok (.lload 7, 2) := by decide +kernel
theorem dX8_floatOf_119 : decode cX8_floatOf 119 = .ok (.ldc2_w 273, 3) := by decide +kernel
theorem dX8_floatOf_122 : decode cX8_floatOf 122 = .ok (.lcmp, 1) := by decide +kernel
theorem dX8_floatOf_123 : decode cX8_floatOf 123 = .ok (.ifCond .ne 7, 3) := by decide +kernel
theorem dX8_floatOf_126 : decode cX8_floatOf 126 = .ok (.iconst 1, 1) := by decide +kernel
theorem dX8_floatOf_127 : decode cX8_floatOf 127 = .ok (.goto 4, 3) := by decide +kernel
theorem dX8_floatOf_130 : decode cX8_floatOf 130 = .ok (.iconst 0, 1) := by decide +kernel
theorem dX8_floatOf_131 : decode cX8_floatOf 131 = .ok (.istore 11, 2) := by decide +kernel
theorem dX8_floatOf_133 : decode cX8_floatOf 133 = .ok (.iload 6, 2) := by decide +kernel
theorem dX8_floatOf_135 : decode cX8_floatOf 135 = .ok (.iload 11, 2) := by decide +kernel
theorem dX8_floatOf_137 : decode cX8_floatOf 137 = .ok (.ifCond .eq 7, 3) := by decide +kernel
theorem dX8_floatOf_140 : decode cX8_floatOf 140 = .ok (.iconst 1, 1) := by decide +kernel
theorem dX8_floatOf_141 : decode cX8_floatOf 141 = .ok (.goto 4, 3) := by decide +kernel
theorem dX8_floatOf_144 : decode cX8_floatOf 144 = .ok (.iconst 0, 1) := by decide +kernel
theorem dX8_floatOf_145 : decode cX8_floatOf 145 = .ok (.iadd, 1) := by decide +kernel
theorem dX8_floatOf_146 : decode cX8_floatOf 146 = .ok (.istore 6, 2) := by decide +kernel
theorem dX8_floatOf_148 : decode cX8_floatOf 148 = .ok (.iload 6, 2) := by decide +kernel
theorem dX8_floatOf_150 : decode cX8_floatOf 150 = .ok (.sipush 150, 3) := by decide +kernel
theorem dX8_floatOf_153 : decode cX8_floatOf 153 = .ok (.iadd, 1) := by decide +kernel
theorem dX8_floatOf_154 : decode cX8_floatOf 154 = .ok (.bipush 23, 2) := by decide +kernel
theorem dX8_floatOf_156 : decode cX8_floatOf 156 = .ok (.ishl, 1) := by decide +kernel
theorem dX8_floatOf_157 : decode cX8_floatOf 157 = .ok (.iload 11, 2) := by decide +kernel
theorem dX8_floatOf_159 : decode cX8_floatOf 159 = .ok (.ifCond .eq 7, 3) := by decide +kernel
theorem dX8_floatOf_162 : decode cX8_floatOf 162 = .ok (.lconst 0, 1) := by decide +kernel
theorem dX8_floatOf_163 : decode cX8_floatOf 163 = .ok (.goto 9, 3) := by decide +kernel
theorem dX8_floatOf_166 : decode cX8_floatOf 166 = .ok (.lload 7, 2) := by decide +kernel
theorem dX8_floatOf_168 : decode cX8_floatOf 168 = .ok (.ldc2_w 271, 3) := by decide +kernel
theorem dX8_floatOf_171 : decode cX8_floatOf 171 = .ok (.lsub, 1) := by decide +kernel
theorem dX8_floatOf_172 : decode cX8_floatOf 172 = .ok (.l2i, 1) := by decide +kernel
theorem dX8_floatOf_173 : decode cX8_floatOf 173 = .ok (.iadd, 1) := by decide +kernel
theorem dX8_floatOf_174 : decode cX8_floatOf 174 = .ok (.ireturn, 1) := by decide +kernel
theorem dX8_sumOf_0 : decode cX8_sumOf 0 = .ok (.iconst 0, 1) := by decide +kernel
theorem dX8_sumOf_1 : decode cX8_sumOf 1 = .ok (.istore_n 2, 1) := by decide +kernel
theorem dX8_sumOf_2 : decode cX8_sumOf 2 = .ok (.iconst 0, 1) := by decide +kernel
theorem dX8_sumOf_3 : decode cX8_sumOf 3 = .ok (.istore_n 3, 1) := by decide +kernel
theorem dX8_sumOf_4 : decode cX8_sumOf 4 = .ok (.iload_n 3, 1) := by decide +kernel
theorem dX8_sumOf_5 : decode cX8_sumOf 5 = .ok (.aload_n 0, 1) := by decide +kernel
theorem dX8_sumOf_6 : decode cX8_sumOf 6 = .ok (.invokevirtual 127, 3) := by decide +kernel
theorem dX8_sumOf_9 : decode cX8_sumOf 9 = .ok (.if_icmp .ge 27, 3) := by decide +kernel
theorem dX8_sumOf_12 : decode cX8_sumOf 12 = .ok (.iload_n 2, 1) := by decide +kernel
theorem dX8_sumOf_13 : decode cX8_sumOf 13 = .ok (.aload_n 0, 1) := by decide +kernel
theorem dX8_sumOf_14 : decode cX8_sumOf 14 = .ok (.iconst 0, 1) := by decide +kernel
theorem dX8_sumOf_15 : decode cX8_sumOf 15 = .ok (.iload_n 1, 1) := by decide +kernel
theorem dX8_sumOf_16 : decode cX8_sumOf 16 = .ok (.iload_n 3, 1) := by decide +kernel
theorem dX8_sumOf_17 : decode cX8_sumOf 17 = .ok (.invokevirtual 137, 3) := by decide +kernel
theorem dX8_sumOf_20 : decode cX8_sumOf 20 = .ok (.ifCond .eq 7, 3) := by decide +kernel
theorem dX8_sumOf_23 : decode cX8_sumOf 23 = .ok (.iload_n 3, 1) := by decide +kernel
theorem dX8_sumOf_24 : decode cX8_sumOf 24 = .ok (.goto 4, 3) := by decide +kernel
theorem dX8_sumOf_27 : decode cX8_sumOf 27 = .ok (.iconst 0, 1) := by decide +kernel
theorem dX8_sumOf_28 : decode cX8_sumOf 28 = .ok (.iadd, 1) := by decide +kernel
theorem dX8_sumOf_29 : decode cX8_sumOf 29 = .ok (.istore_n 2, 1) := by decide +kernel
theorem dX8_sumOf_30 : decode cX8_sumOf 30 = .ok (.iinc 3 1, 3) := by decide +kernel
theorem dX8_sumOf_33 : decode cX8_sumOf 33 = .ok (.goto (-29), 3) := by decide +kernel
theorem dX8_sumOf_36 : decode cX8_sumOf 36 = .ok (.iload_n 2, 1) := by decide +kernel
theorem dX8_sumOf_37 : decode cX8_sumOf 37 = .ok (.ireturn, 1) := by decide +kernel
theorem dX8_share_0 : decode cX8_share 0 = .ok (.aload_n 0, 1) := by decide +kernel
theorem dX8_share_1 : decode cX8_share 1 = .ok (.iload_n 1, 1) := by decide +kernel
theorem dX8_share_2 : decode cX8_share 2 = .ok (.invokevirtual 154, 3) := by decide +kernel
theorem dX8_share_5 : decode cX8_share 5 = .ok (.ifCond .eq 15, 3) := by decide +kernel
theorem dX8_share_8 : decode cX8_share 8 = .ok (.iload_n 2, 1) := by decide +kernel
theorem dX8_share_9 : decode cX8_share 9 = .ok (.i2l, 1) := by decide +kernel
theorem dX8_share_10 : decode cX8_share 10 = .ok (.lconst 0, 1) := by decide +kernel
theorem dX8_share_11 : decode cX8_share 11 = .ok (.ldc2_w 47, 3) := by decide +kernel
theorem dX8_share_14 : decode cX8_share 14 = .ok (.invokestatic 39, 3) := by decide +kernel
theorem dX8_share_17 : decode cX8_share 17 = .ok (.ifCond .ne 6, 3) := by decide +kernel
theorem dX8_share_20 : decode cX8_share 20 = .ok (.ldc 49, 2) := by decide +kernel
theorem dX8_share_22 : decode cX8_share 22 = .ok (.ireturn, 1) := by decide +kernel
theorem dX8_share_23 : decode cX8_share 23 = .ok (.aload_n 0, 1) := by decide +kernel
theorem dX8_share_24 : decode cX8_share 24 = .ok (.iconst 0, 1) := by decide +kernel
theorem dX8_share_25 : decode cX8_share 25 = .ok (.iload_n 1, 1) := by decide +kernel
theorem dX8_share_26 : decode cX8_share 26 = .ok (.invokevirtual 168, 3) := by decide +kernel
theorem dX8_share_29 : decode cX8_share 29 = .ok (.istore_n 3, 1) := by decide +kernel
theorem dX8_share_30 : decode cX8_share 30 = .ok (.iload_n 2, 1) := by decide +kernel
theorem dX8_share_31 : decode cX8_share 31 = .ok (.ifCond .ne 12, 3) := by decide +kernel
theorem dX8_share_34 : decode cX8_share 34 = .ok (.iload_n 3, 1) := by decide +kernel
theorem dX8_share_35 : decode cX8_share 35 = .ok (.aload_n 0, 1) := by decide +kernel
theorem dX8_share_36 : decode cX8_share 36 = .ok (.invokevirtual 127, 3) := by decide +kernel
theorem dX8_share_39 : decode cX8_share 39 = .ok (.invokestatic 275, 3) := by decide +kernel
theorem dX8_share_42 : decode cX8_share 42 = .ok (.ireturn, 1) := by decide +kernel
theorem dX8_share_43 : decode cX8_share 43 = .ok (.iload_n 3, 1) := by decide +kernel
theorem dX8_share_44 : decode cX8_share 44 = .ok (.ifCond .ne 7, 3) := by decide +kernel
theorem dX8_share_47 : decode cX8_share 47 = .ok (.iconst 0, 1) := by decide +kernel
theorem dX8_share_48 : decode cX8_share 48 = .ok (.goto 27, 3) := by decide +kernel
theorem dX8_share_51 : decode cX8_share 51 = .ok (.iload_n 2, 1) := by decide +kernel
theorem dX8_share_52 : decode cX8_share 52 = .ok (.iconst 1, 1) := by decide +kernel
theorem dX8_share_53 : decode cX8_share 53 = .ok (.if_icmp .ne 15, 3) := by decide +kernel
theorem dX8_share_56 : decode cX8_share 56 = .ok (.aload_n 0, 1) := by decide +kernel
theorem dX8_share_57 : decode cX8_share 57 = .ok (.iload_n 1, 1) := by decide +kernel
theorem dX8_share_58 : decode cX8_share 58 = .ok (.invokevirtual 278, 3) := by decide +kernel
theorem dX8_share_61 : decode cX8_share 61 = .ok (.iload_n 3, 1) := by decide +kernel
theorem dX8_share_62 : decode cX8_share 62 = .ok (.invokestatic 275, 3) := by decide +kernel
theorem dX8_share_65 : decode cX8_share 65 = .ok (.goto 10, 3) := by decide +kernel
theorem dX8_share_68 : decode cX8_share 68 = .ok (.aload_n 0, 1) := by decide +kernel
theorem dX8_share_69 : decode cX8_share 69 = .ok (.iload_n 1, 1) := by decide +kernel
theorem dX8_share_70 : decode cX8_share 70 = .ok (.invokevirtual 278, 3) := by decide +kernel
theorem dX8_share_73 : decode cX8_share 73 = .ok (.iload_n 3, 1) := by decide +kernel
theorem dX8_share_74 : decode cX8_share 74 = .ok (.idiv, 1) := by decide +kernel
theorem dX8_share_75 : decode cX8_share 75 = .ok (.ireturn, 1) := by decide +kernel
theorem dX8_rank_0 : decode cX8_rank 0 = .ok (.aload_n 0, 1) := by decide +kernel
theorem dX8_rank_1 : decode cX8_rank 1 = .ok (.iload_n 1, 1) := by decide +kernel
theorem dX8_rank_2 : decode cX8_rank 2 = .ok (.invokevirtual 154, 3) := by decide +kernel
theorem dX8_rank_5 : decode cX8_rank 5 = .ok (.ifCond .eq 12, 3) := by decide +kernel
theorem dX8_rank_8 : decode cX8_rank 8 = .ok (.aload_n 0, 1) := by decide +kernel
theorem dX8_rank_9 : decode cX8_rank 9 = .ok (.iload_n 2, 1) := by decide +kernel
theorem dX8_rank_10 : decode cX8_rank 10 = .ok (.i2l, 1) := by decide +kernel
theorem dX8_rank_11 : decode cX8_rank 11 = .ok (.invokevirtual 157, 3) := by decide +kernel
theorem dX8_rank_14 : decode cX8_rank 14 = .ok (.ifCond .ne 6, 3) := by decide +kernel
theorem dX8_rank_17 : decode cX8_rank 17 = .ok (.ldc 49, 2) := by decide +kernel
theorem dX8_rank_19 : decode cX8_rank 19 = .ok (.ireturn, 1) := by decide +kernel
theorem dX8_rank_20 : decode cX8_rank 20 = .ok (.iconst 0, 1) := by decide +kernel
theorem dX8_rank_21 : decode cX8_rank 21 = .ok (.istore_n 3, 1) := by decide +kernel
theorem dX8_rank_22 : decode cX8_rank 22 = .ok (.iconst 0, 1) := by decide +kernel
theorem dX8_rank_23 : decode cX8_rank 23 = .ok (.istore 4, 2) := by decide +kernel
theorem dX8_rank_25 : decode cX8_rank 25 = .ok (.iload 4, 2) := by decide +kernel
theorem dX8_rank_27 : decode cX8_rank 27 = .ok (.iload_n 2, 1) := by decide +kernel
theorem dX8_rank_28 : decode cX8_rank 28 = .ok (.if_icmp .ge 28, 3) := by decide +kernel
theorem dX8_rank_31 : decode cX8_rank 31 = .ok (.iload_n 3, 1) := by decide +kernel
theorem dX8_rank_32 : decode cX8_rank 32 = .ok (.aload_n 0, 1) := by decide +kernel
theorem dX8_rank_33 : decode cX8_rank 33 = .ok (.iconst 0, 1) := by decide +kernel
theorem dX8_rank_34 : decode cX8_rank 34 = .ok (.iload_n 1, 1) := by decide +kernel
theorem dX8_rank_35 : decode cX8_rank 35 = .ok (.iload 4, 2) := by decide +kernel
theorem dX8_rank_37 : decode cX8_rank 37 = .ok (.invokevirtual 137, 3) := by decide +kernel
theorem dX8_rank_40 : decode cX8_rank 40 = .ok (.ifCond .eq 7, 3) := by decide +kernel
theorem dX8_rank_43 : decode cX8_rank 43 = .ok (.iconst 1, 1) := by decide +kernel
theorem dX8_rank_44 : decode cX8_rank 44 = .ok (.goto 4, 3) := by decide +kernel
theorem dX8_rank_47 : decode cX8_rank 47 = .ok (.iconst 0, 1) := by decide +kernel
theorem dX8_rank_48 : decode cX8_rank 48 = .ok (.iadd, 1) := by decide +kernel
theorem dX8_rank_49 : decode cX8_rank 49 = .ok (.istore_n 3, 1) := by decide +kernel
theorem dX8_rank_50 : decode cX8_rank 50 = .ok (.iinc 4 1, 3) := by decide +kernel
theorem dX8_rank_53 : decode cX8_rank 53 = .ok (.goto (-28), 3) := by decide +kernel
theorem dX8_rank_56 : decode cX8_rank 56 = .ok (.iload_n 3, 1) := by decide +kernel
theorem dX8_rank_57 : decode cX8_rank 57 = .ok (.ireturn, 1) := by decide +kernel
theorem dX8_nth_0 : decode cX8_nth 0 = .ok (.aload_n 0, 1) := by decide +kernel
theorem dX8_nth_1 : decode cX8_nth 1 = .ok (.iload_n 1, 1) := by decide +kernel
theorem dX8_nth_2 : decode cX8_nth 2 = .ok (.invokevirtual 154, 3) := by decide +kernel
theorem dX8_nth_5 : decode cX8_nth 5 = .ok (.ifCond .eq 7, 3) := by decide +kernel
theorem dX8_nth_8 : decode cX8_nth 8 = .ok (.iload_n 2, 1) := by decide +kernel
theorem dX8_nth_9 : decode cX8_nth 9 = .ok (.ifCond .ge 6, 3) := by decide +kernel
theorem dX8_nth_12 : decode cX8_nth 12 = .ok (.ldc 49, 2) := by decide +kernel
theorem dX8_nth_14 : decode cX8_nth 14 = .ok (.ireturn, 1) := by decide +kernel
theorem dX8_nth_15 : decode cX8_nth 15 = .ok (.aload_n 0, 1) := by decide +kernel
theorem dX8_nth_16 : decode cX8_nth 16 = .ok (.iload_n 1, 1) := by decide +kernel
theorem dX8_nth_17 : decode cX8_nth 17 = .ok (.invokevirtual 147, 3) := by decide +kernel
theorem dX8_nth_20 : decode cX8_nth 20 = .ok (.istore_n 3, 1) := by decide +kernel
theorem dX8_nth_21 : decode cX8_nth 21 = .ok (.iconst 0, 1) := by decide +kernel
theorem dX8_nth_22 : decode cX8_nth 22 = .ok (.istore 4, 2) := by decide +kernel
theorem dX8_nth_24 : decode cX8_nth 24 = .ok (.iload 4, 2) := by decide +kernel
theorem dX8_nth_26 : decode cX8_nth 26 = .ok (.iload_n 2, 1) := by decide +kernel
theorem dX8_nth_27 : decode cX8_nth 27 = .ok (.if_icmp .ge 22, 3) := by decide +kernel
theorem dX8_nth_30 : decode cX8_nth 30 = .ok (.iload_n 3, 1) := by decide +kernel
theorem dX8_nth_31 : decode cX8_nth 31 = .ok (.ldc 140, 2) := by decide +kernel
theorem dX8_nth_33 : decode cX8_nth 33 = .ok (.if_icmp .eq 16, 3) := by decide +kernel
theorem dX8_nth_36 : decode cX8_nth 36 = .ok (.aload_n 0, 1) := by decide +kernel
theorem dX8_nth_37 : decode cX8_nth 37 = .ok (.iload_n 1, 1) := by decide +kernel
theorem dX8_nth_38 : decode cX8_nth 38 = .ok (.iload_n 3, 1) := by decide +kernel
theorem dX8_nth_39 : decode cX8_nth 39 = .ok (.invokevirtual 141, 3) := by decide +kernel
theorem dX8_nth_42 : decode cX8_nth 42 = .ok (.istore_n 3, 1) := by decide +kernel
theorem dX8_nth_43 : decode cX8_nth 43 = .ok (.iinc 4 1, 3) := by decide +kernel
theorem dX8_nth_46 : decode cX8_nth 46 = .ok (.goto (-22), 3) := by decide +kernel
theorem dX8_nth_49 : decode cX8_nth 49 = .ok (.iload_n 3, 1) := by decide +kernel
theorem dX8_nth_50 : decode cX8_nth 50 = .ok (.ireturn, 1) := by decide +kernel
theorem dX8_near_0 : decode cX8_near 0 = .ok (.aload_n 0, 1) := by decide +kernel
theorem dX8_near_1 : decode cX8_near 1 = .ok (.iload_n 1, 1) := by decide +kernel
theorem dX8_near_2 : decode cX8_near 2 = .ok (.invokevirtual 154, 3) := by decide +kernel
theorem dX8_near_5 : decode cX8_near 5 = .ok (.ifCond .eq 12, 3) := by decide +kernel
theorem dX8_near_8 : decode cX8_near 8 = .ok (.aload_n 0, 1) := by decide +kernel
theorem dX8_near_9 : decode cX8_near 9 = .ok (.iload_n 2, 1) := by decide +kernel
theorem dX8_near_10 : decode cX8_near 10 = .ok (.i2l, 1) := by decide +kernel
theorem dX8_near_11 : decode cX8_near 11 = .ok (.invokevirtual 157, 3) := by decide +kernel
theorem dX8_near_14 : decode cX8_near 14 = .ok (.ifCond .ne 6, 3) := by decide +kernel
theorem dX8_near_17 : decode cX8_near 17 = .ok (.ldc 49, 2) := by decide +kernel
theorem dX8_near_19 : decode cX8_near 19 = .ok (.ireturn, 1) := by decide +kernel
theorem dX8_near_20 : decode cX8_near 20 = .ok (.aload_n 0, 1) := by decide +kernel
theorem dX8_near_21 : decode cX8_near 21 = .ok (.iload_n 1, 1) := by decide +kernel
theorem dX8_near_22 : decode cX8_near 22 = .ok (.iload_n 2, 1) := by decide +kernel
theorem dX8_near_23 : decode cX8_near 23 = .ok (.invokevirtual 141, 3) := by decide +kernel
theorem dX8_near_26 : decode cX8_near 26 = .ok (.istore_n 3, 1) := by decide +kernel
theorem dX8_near_27 : decode cX8_near 27 = .ok (.aload_n 0, 1) := by decide +kernel
theorem dX8_near_28 : decode cX8_near 28 = .ok (.iload_n 1, 1) := by decide +kernel
theorem dX8_near_29 : decode cX8_near 29 = .ok (.iload_n 2, 1) := by decide +kernel
theorem dX8_near_30 : decode cX8_near 30 = .ok (.invokevirtual 144, 3) := by decide +kernel
theorem dX8_near_33 : decode cX8_near 33 = .ok (.istore 4, 2) := by decide +kernel
theorem dX8_near_35 : decode cX8_near 35 = .ok (.aload_n 0, 1) := by decide +kernel
theorem dX8_near_36 : decode cX8_near 36 = .ok (.iconst 0, 1) := by decide +kernel
theorem dX8_near_37 : decode cX8_near 37 = .ok (.iload_n 1, 1) := by decide +kernel
theorem dX8_near_38 : decode cX8_near 38 = .ok (.iload_n 2, 1) := by decide +kernel
theorem dX8_near_39 : decode cX8_near 39 = .ok (.invokevirtual 137, 3) := by decide +kernel
theorem dX8_near_42 : decode cX8_near 42 = .ok (.ifCond .eq 7, 3) := by decide +kernel
theorem dX8_near_45 : decode cX8_near 45 = .ok (.iload_n 2, 1) := by decide +kernel
theorem dX8_near_46 : decode cX8_near 46 = .ok (.goto 41, 3) := by decide +kernel
theorem dX8_near_49 : decode cX8_near 49 = .ok (.iload_n 3, 1) := by decide +kernel
theorem dX8_near_50 : decode cX8_near 50 = .ok (.ldc 140, 2) := by decide +kernel
theorem dX8_near_52 : decode cX8_near 52 = .ok (.if_icmp .ne 8, 3) := by decide +kernel
theorem dX8_near_55 : decode cX8_near 55 = .ok (.iload 4, 2) := by decide +kernel
theorem dX8_near_57 : decode cX8_near 57 = .ok (.goto 30, 3) := by decide +kernel
theorem dX8_near_60 : decode cX8_near 60 = .ok (.iload 4, 2) := by decide +kernel
theorem dX8_near_62 : decode cX8_near 62 = .ok (.ldc 140, 2) := by decide +kernel
theorem dX8_near_64 : decode cX8_near 64 = .ok (.if_icmp .ne 7, 3) := by decide +kernel
theorem dX8_near_67 : decode cX8_near 67 = .ok (.iload_n 3, 1) := by decide +kernel
theorem dX8_near_68 : decode cX8_near 68 = .ok (.goto 19, 3) := by decide +kernel
theorem dX8_near_71 : decode cX8_near 71 = .ok (.iload_n 2, 1) := by decide +kernel
theorem dX8_near_72 : decode cX8_near 72 = .ok (.iload 4, 2) := by decide +kernel
theorem dX8_near_74 : decode cX8_near 74 = .ok (.isub, 1) := by decide +kernel
theorem dX8_near_75 : decode cX8_near 75 = .ok (.iload_n 3, 1) := by decide +kernel
theorem dX8_near_76 : decode cX8_near 76 = .ok (.iload_n 2, 1) := by decide +kernel
theorem dX8_near_77 : decode cX8_near 77 = .ok (.isub, 1) := by decide +kernel
theorem dX8_near_78 : decode cX8_near 78 = .ok (.if_icmp .gt 8, 3) := by decide +kernel
theorem dX8_near_81 : decode cX8_near 81 = .ok (.iload 4, 2) := by decide +kernel
theorem dX8_near_83 : decode cX8_near 83 = .ok (.goto 4, 3) := by decide +kernel
theorem dX8_near_86 : decode cX8_near 86 = .ok (.iload_n 3, 1) := by decide +kernel
theorem dX8_near_87 : decode cX8_near 87 = .ok (.ireturn, 1) := by decide +kernel
theorem dX8_tell_0 : decode cX8_tell 0 = .ok (.aload_n 0, 1) := by decide +kernel
theorem dX8_tell_1 : decode cX8_tell 1 = .ok (.iload_n 1, 1) := by decide +kernel
theorem dX8_tell_2 : decode cX8_tell 2 = .ok (.invokevirtual 154, 3) := by decide +kernel
theorem dX8_tell_5 : decode cX8_tell 5 = .ok (.ifCond .eq 19, 3) := by decide +kernel
theorem dX8_tell_8 : decode cX8_tell 8 = .ok (.aload_n 0, 1) := by decide +kernel
theorem dX8_tell_9 : decode cX8_tell 9 = .ok (.iload_n 2, 1) := by decide +kernel
theorem dX8_tell_10 : decode cX8_tell 10 = .ok (.i2l, 1) := by decide +kernel
theorem dX8_tell_11 : decode cX8_tell 11 = .ok (.invokevirtual 157, 3) := by decide +kernel
theorem dX8_tell_14 : decode cX8_tell 14 = .ok (.ifCond .eq 10, 3) := by decide +kernel
theorem dX8_tell_17 : decode cX8_tell 17 = .ok (.iload_n 3, 1) := by decide +kernel
theorem dX8_tell_18 : decode cX8_tell 18 = .ok (.invokestatic 43, 3) := by decide +kernel
theorem dX8_tell_21 : decode cX8_tell 21 = .ok (.ifCond .ne 6, 3) := by decide +kernel
theorem dX8_tell_24 : decode cX8_tell 24 = .ok (.ldc 49, 2) := by decide +kernel
theorem dX8_tell_26 : decode cX8_tell 26 = .ok (.ireturn, 1) := by decide +kernel
theorem dX8_tell_27 : decode cX8_tell 27 = .ok (.aload_n 0, 1) := by decide +kernel
theorem dX8_tell_28 : decode cX8_tell 28 = .ok (.getfield 20, 3) := by decide +kernel
theorem dX8_tell_31 : decode cX8_tell 31 = .ok (.iload_n 3, 1) := by decide +kernel
theorem dX8_tell_32 : decode cX8_tell 32 = .ok (.iaload, 1) := by decide +kernel
theorem dX8_tell_33 : decode cX8_tell 33 = .ok (.ifCond .ge 9, 3) := by decide +kernel
theorem dX8_tell_36 : decode cX8_tell 36 = .ok (.aload_n 0, 1) := by decide +kernel
theorem dX8_tell_37 : decode cX8_tell 37 = .ok (.iconst 1, 1) := by decide +kernel
theorem dX8_tell_38 : decode cX8_tell 38 = .ok (.invokevirtual 50, 3) := by decide +kernel
theorem dX8_tell_41 : decode cX8_tell 41 = .ok (.ireturn, 1) := by decide +kernel
theorem dX8_tell_42 : decode cX8_tell 42 = .ok (.iload 4, 2) := by decide +kernel
theorem dX8_tell_44 : decode cX8_tell 44 = .ok (.i2l, 1) := by decide +kernel
theorem dX8_tell_45 : decode cX8_tell 45 = .ok (.lconst 0, 1) := by decide +kernel
theorem dX8_tell_46 : decode cX8_tell 46 = .ok (.aload_n 0, 1) := by decide +kernel
theorem dX8_tell_47 : decode cX8_tell 47 = .ok (.getfield 20, 3) := by decide +kernel
theorem dX8_tell_50 : decode cX8_tell 50 = .ok (.iload_n 3, 1) := by decide +kernel
theorem dX8_tell_51 : decode cX8_tell 51 = .ok (.iaload, 1) := by decide +kernel
theorem dX8_tell_52 : decode cX8_tell 52 = .ok (.i2l, 1) := by decide +kernel
theorem dX8_tell_53 : decode cX8_tell 53 = .ok (.invokestatic 39, 3) := by decide +kernel
theorem dX8_tell_56 : decode cX8_tell 56 = .ok (.ifCond .ne 9, 3) := by decide +kernel
theorem dX8_tell_59 : decode cX8_tell 59 = .ok (.aload_n 0, 1) := by decide +kernel
theorem dX8_tell_60 : decode cX8_tell 60 = .ok (.iconst 2, 1) := by decide +kernel
theorem dX8_tell_61 : decode cX8_tell 61 = .ok (.invokevirtual 50, 3) := by decide +kernel
theorem dX8_tell_64 : decode cX8_tell 64 = .ok (.ireturn, 1) := by decide +kernel
theorem dX8_tell_65 : decode cX8_tell 65 = .ok (.iconst 0, 1) := by decide +kernel
theorem dX8_tell_66 : decode cX8_tell 66 = .ok (.istore 5, 2) := by decide +kernel
theorem dX8_tell_68 : decode cX8_tell 68 = .ok (.aload_n 0, 1) := by decide +kernel
theorem dX8_tell_69 : decode cX8_tell 69 = .ok (.iconst 0, 1) := by decide +kernel
theorem dX8_tell_70 : decode cX8_tell 70 = .ok (.iload_n 1, 1) := by decide +kernel
theorem dX8_tell_71 : decode cX8_tell 71 = .ok (.iload_n 2, 1) := by decide +kernel
theorem dX8_tell_72 : decode cX8_tell 72 = .ok (.invokevirtual 137, 3) := by decide +kernel
theorem dX8_tell_75 : decode cX8_tell 75 = .ok (.ifCond .eq 7, 3) := by decide +kernel
theorem dX8_tell_78 : decode cX8_tell 78 = .ok (.iload_n 2, 1) := by decide +kernel
theorem dX8_tell_79 : decode cX8_tell 79 = .ok (.goto 9, 3) := by decide +kernel
theorem dX8_tell_82 : decode cX8_tell 82 = .ok (.aload_n 0, 1) := by decide +kernel
theorem dX8_tell_83 : decode cX8_tell 83 = .ok (.iload_n 1, 1) := by decide +kernel
theorem dX8_tell_84 : decode cX8_tell 84 = .ok (.iload_n 2, 1) := by decide +kernel
theorem dX8_tell_85 : decode cX8_tell 85 = .ok (.invokevirtual 141, 3) := by decide +kernel
theorem dX8_tell_88 : decode cX8_tell 88 = .ok (.istore 6, 2) := by decide +kernel
theorem dX8_tell_90 : decode cX8_tell 90 = .ok (.iload 6, 2) := by decide +kernel
theorem dX8_tell_92 : decode cX8_tell 92 = .ok (.ldc 140, 2) := by decide +kernel
theorem dX8_tell_94 : decode cX8_tell 94 = .ok (.if_icmp .eq 58, 3) := by decide +kernel
theorem dX8_tell_97 : decode cX8_tell 97 = .ok (.iload 4, 2) := by decide +kernel
theorem dX8_tell_99 : decode cX8_tell 99 = .ok (.iload 5, 2) := by decide +kernel
theorem dX8_tell_101 : decode cX8_tell 101 = .ok (.iadd, 1) := by decide +kernel
theorem dX8_tell_102 : decode cX8_tell 102 = .ok (.aload_n 0, 1) := by decide +kernel
theorem dX8_tell_103 : decode cX8_tell 103 = .ok (.getfield 20, 3) := by decide +kernel
theorem dX8_tell_106 : decode cX8_tell 106 = .ok (.iload_n 3, 1) := by decide +kernel
theorem dX8_tell_107 : decode cX8_tell 107 = .ok (.iaload, 1) := by decide +kernel
theorem dX8_tell_108 : decode cX8_tell 108 = .ok (.if_icmp .ge 44, 3) := by decide +kernel
theorem dX8_tell_111 : decode cX8_tell 111 = .ok (.aload_n 0, 1) := by decide +kernel
theorem dX8_tell_112 : decode cX8_tell 112 = .ok (.getfield 23, 3) := by decide +kernel
theorem dX8_tell_115 : decode cX8_tell 115 = .ok (.bipush 40, 2) := by decide +kernel
theorem dX8_tell_117 : decode cX8_tell 117 = .ok (.iload_n 3, 1) := by decide +kernel
theorem dX8_tell_118 : decode cX8_tell 118 = .ok (.imul, 1) := by decide +kernel
theorem dX8_tell_119 : decode cX8_tell 119 = .ok (.iload 4, 2) := by decide +kernel
theorem dX8_tell_121 : decode cX8_tell 121 = .ok (.iadd, 1) := by decide +kernel
theorem dX8_tell_122 : decode cX8_tell 122 = .ok (.iload 5, 2) := by decide +kernel
theorem dX8_tell_124 : decode cX8_tell 124 = .ok (.iadd, 1) := by decide +kernel
theorem dX8_tell_125 : decode cX8_tell 125 = .ok (.iload 6, 2) := by decide +kernel
theorem dX8_tell_127 : decode cX8_tell 127 = .ok (.aload_n 0, 1) := by decide +kernel
theorem dX8_tell_128 : decode cX8_tell 128 = .ok (.getfield 17, 3) := by decide +kernel
theorem dX8_tell_131 : decode cX8_tell 131 = .ok (.iload_n 3, 1) := by decide +kernel
theorem dX8_tell_132 : decode cX8_tell 132 = .ok (.iaload, 1) := by decide +kernel
theorem dX8_tell_133 : decode cX8_tell 133 = .ok (.invokestatic 57, 3) := by decide +kernel
theorem dX8_tell_136 : decode cX8_tell 136 = .ok (.iastore, 1) := by decide +kernel
theorem dX8_tell_137 : decode cX8_tell 137 = .ok (.iinc 5 1, 3) := by decide +kernel
theorem dX8_tell_140 : decode cX8_tell 140 = .ok (.aload_n 0, 1) := by decide +kernel
theorem dX8_tell_141 : decode cX8_tell 141 = .ok (.iload_n 1, 1) := by decide +kernel
theorem dX8_tell_142 : decode cX8_tell 142 = .ok (.iload 6, 2) := by decide +kernel
theorem dX8_tell_144 : decode cX8_tell 144 = .ok (.invokevirtual 141, 3) := by decide +kernel
theorem dX8_tell_147 : decode cX8_tell 147 = .ok (.istore 6, 2) := by decide +kernel
theorem dX8_tell_149 : decode cX8_tell 149 = .ok (.goto (-59), 3) := by decide +kernel
theorem dX8_tell_152 : decode cX8_tell 152 = .ok (.aload_n 0, 1) := by decide +kernel
theorem dX8_tell_153 : decode cX8_tell 153 = .ok (.iload 5, 2) := by decide +kernel
theorem dX8_tell_155 : decode cX8_tell 155 = .ok (.invokevirtual 54, 3) := by decide +kernel
theorem dX8_tell_158 : decode cX8_tell 158 = .ok (.ireturn, 1) := by decide +kernel
theorem dX8_chase_0 : decode cX8_chase 0 = .ok (.aload_n 0, 1) := by decide +kernel
theorem dX8_chase_1 : decode cX8_chase 1 = .ok (.iload_n 1, 1) := by decide +kernel
theorem dX8_chase_2 : decode cX8_chase 2 = .ok (.invokevirtual 154, 3) := by decide +kernel
theorem dX8_chase_5 : decode cX8_chase 5 = .ok (.ifCond .eq 33, 3) := by decide +kernel
theorem dX8_chase_8 : decode cX8_chase 8 = .ok (.aload_n 0, 1) := by decide +kernel
theorem dX8_chase_9 : decode cX8_chase 9 = .ok (.iload_n 2, 1) := by decide +kernel
theorem dX8_chase_10 : decode cX8_chase 10 = .ok (.invokevirtual 154, 3) := by decide +kernel
theorem dX8_chase_13 : decode cX8_chase 13 = .ok (.ifCond .eq 25, 3) := by decide +kernel
theorem dX8_chase_16 : decode cX8_chase 16 = .ok (.aload_n 0, 1) := by decide +kernel
theorem dX8_chase_17 : decode cX8_chase 17 = .ok (.iload_n 3, 1) := by decide +kernel
theorem dX8_chase_18 : decode cX8_chase 18 = .ok (.i2l, 1) := by decide +kernel
theorem dX8_chase_19 : decode cX8_chase 19 = .ok (.invokevirtual 157, 3) := by decide +kernel
theorem dX8_chase_22 : decode cX8_chase 22 = .ok (.ifCond .eq 16, 3) := by decide +kernel
theorem dX8_chase_25 : decode cX8_chase 25 = .ok (.iload 4, 2) := by decide +kernel
theorem dX8_chase_27 : decode cX8_chase 27 = .ok (.i2l, 1) := by decide +kernel
theorem dX8_chase_28 : decode cX8_chase 28 = .ok (.lconst 0, 1) := by decide +kernel
theorem dX8_chase_29 : decode cX8_chase 29 = .ok (.ldc2_w 281, 3) := by decide +kernel
theorem dX8_chase_32 : decode cX8_chase 32 = .ok (.invokestatic 39, 3) := by decide +kernel
theorem dX8_chase_35 : decode cX8_chase 35 = .ok (.ifCond .ne 6, 3) := by decide +kernel
theorem dX8_chase_38 : decode cX8_chase 38 = .ok (.ldc 49, 2) := by decide +kernel
theorem dX8_chase_40 : decode cX8_chase 40 = .ok (.ireturn, 1) := by decide +kernel
theorem dX8_chase_41 : decode cX8_chase 41 = .ok (.iload_n 3, 1) := by decide +kernel
theorem dX8_chase_42 : decode cX8_chase 42 = .ok (.istore 5, 2) := by decide +kernel
theorem dX8_chase_44 : decode cX8_chase 44 = .ok (.iconst 0, 1) := by decide +kernel
theorem dX8_chase_45 : decode cX8_chase 45 = .ok (.istore 6, 2) := by decide +kernel
theorem dX8_chase_47 : decode cX8_chase 47 = .ok (.iload 6, 2) := by decide +kernel
theorem dX8_chase_49 : decode cX8_chase 49 = .ok (.iload 4, 2) := by decide +kernel
theorem dX8_chase_51 : decode cX8_chase 51 = .ok (.if_icmp .ge 36, 3) := by decide +kernel
theorem dX8_chase_54 : decode cX8_chase 54 = .ok (.iload 5, 2) := by decide +kernel
theorem dX8_chase_56 : decode cX8_chase 56 = .ok (.ldc 140, 2) := by decide +kernel
theorem dX8_chase_58 : decode cX8_chase 58 = .ok (.if_icmp .eq 29, 3) := by decide +kernel
theorem dX8_chase_61 : decode cX8_chase 61 = .ok (.aload_n 0, 1) := by decide +kernel
theorem dX8_chase_62 : decode cX8_chase 62 = .ok (.iload 6, 2) := by decide +kernel
theorem dX8_chase_64 : decode cX8_chase 64 = .ok (.iconst 2, 1) := by decide +kernel
theorem dX8_chase_65 : decode cX8_chase 65 = .ok (.irem, 1) := by decide +kernel
theorem dX8_chase_66 : decode cX8_chase 66 = .ok (.ifCond .ne 7, 3) := by decide +kernel
theorem dX8_chase_69 : decode cX8_chase 69 = .ok (.iload_n 1, 1) := by decide +kernel
theorem dX8_chase_70 : decode cX8_chase 70 = .ok (.goto 4, 3) := by decide +kernel
theorem dX8_chase_73 : decode cX8_chase 73 = .ok (.iload_n 2, 1) := by decide +kernel
theorem dX8_chase_74 : decode cX8_chase 74 = .ok (.iload 5, 2) := by decide +kernel
theorem dX8_chase_76 : decode cX8_chase 76 = .ok (.invokevirtual 183, 3) := by decide +kernel
theorem dX8_chase_79 : decode cX8_chase 79 = .ok (.istore 5, 2) := by decide +kernel
theorem dX8_chase_81 : decode cX8_chase 81 = .ok (.iinc 6 1, 3) := by decide +kernel
theorem dX8_chase_84 : decode cX8_chase 84 = .ok (.goto (-37), 3) := by decide +kernel
theorem dX8_chase_87 : decode cX8_chase 87 = .ok (.iload 5, 2) := by decide +kernel
theorem dX8_chase_89 : decode cX8_chase 89 = .ok (.ireturn, 1) := by decide +kernel
theorem dX8_meet_0 : decode cX8_meet 0 = .ok (.aload_n 0, 1) := by decide +kernel
theorem dX8_meet_1 : decode cX8_meet 1 = .ok (.iload_n 1, 1) := by decide +kernel
theorem dX8_meet_2 : decode cX8_meet 2 = .ok (.i2l, 1) := by decide +kernel
theorem dX8_meet_3 : decode cX8_meet 3 = .ok (.invokevirtual 157, 3) := by decide +kernel
theorem dX8_meet_6 : decode cX8_meet 6 = .ok (.ifCond .ne 6, 3) := by decide +kernel
theorem dX8_meet_9 : decode cX8_meet 9 = .ok (.ldc 49, 2) := by decide +kernel
theorem dX8_meet_11 : decode cX8_meet 11 = .ok (.ireturn, 1) := by decide +kernel
theorem dX8_meet_12 : decode cX8_meet 12 = .ok (.iload_n 1, 1) := by decide +kernel
theorem dX8_meet_13 : decode cX8_meet 13 = .ok (.istore_n 2, 1) := by decide +kernel
theorem dX8_meet_14 : decode cX8_meet 14 = .ok (.iload_n 2, 1) := by decide +kernel
theorem dX8_meet_15 : decode cX8_meet 15 = .ok (.aload_n 0, 1) := by decide +kernel
theorem dX8_meet_16 : decode cX8_meet 16 = .ok (.invokevirtual 127, 3) := by decide +kernel
theorem dX8_meet_19 : decode cX8_meet 19 = .ok (.if_icmp .ge 58, 3) := by decide +kernel
theorem dX8_meet_22 : decode cX8_meet 22 = .ok (.iconst 1, 1) := by decide +kernel
theorem dX8_meet_23 : decode cX8_meet 23 = .ok (.istore_n 3, 1) := by decide +kernel
theorem dX8_meet_24 : decode cX8_meet 24 = .ok (.iconst 0, 1) := by decide +kernel
theorem dX8_meet_25 : decode cX8_meet 25 = .ok (.istore 4, 2) := by decide +kernel
theorem dX8_meet_27 : decode cX8_meet 27 = .ok (.iload 4, 2) := by decide +kernel
theorem dX8_meet_29 : decode cX8_meet 29 = .ok (.aload_n 0, 1) := by decide +kernel
theorem dX8_meet_30 : decode cX8_meet 30 = .ok (.getfield 7, 3) := by decide +kernel
theorem dX8_meet_33 : decode cX8_meet 33 = .ok (.iconst 0, 1) := by decide +kernel
theorem dX8_meet_34 : decode cX8_meet 34 = .ok (.iaload, 1) := by decide +kernel
theorem dX8_meet_35 : decode cX8_meet 35 = .ok (.if_icmp .ge 30, 3) := by decide +kernel
theorem dX8_meet_38 : decode cX8_meet 38 = .ok (.iload_n 3, 1) := by decide +kernel
theorem dX8_meet_39 : decode cX8_meet 39 = .ok (.ifCond .eq 18, 3) := by decide +kernel
theorem dX8_meet_42 : decode cX8_meet 42 = .ok (.aload_n 0, 1) := by decide +kernel
theorem dX8_meet_43 : decode cX8_meet 43 = .ok (.iconst 0, 1) := by decide +kernel
theorem dX8_meet_44 : decode cX8_meet 44 = .ok (.iload 4, 2) := by decide +kernel
theorem dX8_meet_46 : decode cX8_meet 46 = .ok (.iload_n 2, 1) := by decide +kernel
theorem dX8_meet_47 : decode cX8_meet 47 = .ok (.invokevirtual 137, 3) := by decide +kernel
theorem dX8_meet_50 : decode cX8_meet 50 = .ok (.ifCond .eq 7, 3) := by decide +kernel
theorem dX8_meet_53 : decode cX8_meet 53 = .ok (.iconst 1, 1) := by decide +kernel
theorem dX8_meet_54 : decode cX8_meet 54 = .ok (.goto 4, 3) := by decide +kernel
theorem dX8_meet_57 : decode cX8_meet 57 = .ok (.iconst 0, 1) := by decide +kernel
theorem dX8_meet_58 : decode cX8_meet 58 = .ok (.istore_n 3, 1) := by decide +kernel
theorem dX8_meet_59 : decode cX8_meet 59 = .ok (.iinc 4 1, 3) := by decide +kernel
theorem dX8_meet_62 : decode cX8_meet 62 = .ok (.goto (-35), 3) := by decide +kernel
theorem dX8_meet_65 : decode cX8_meet 65 = .ok (.iload_n 3, 1) := by decide +kernel
theorem dX8_meet_66 : decode cX8_meet 66 = .ok (.ifCond .eq 5, 3) := by decide +kernel
theorem dX8_meet_69 : decode cX8_meet 69 = .ok (.iload_n 2, 1) := by decide +kernel
theorem dX8_meet_70 : decode cX8_meet 70 = .ok (.ireturn, 1) := by decide +kernel
theorem dX8_meet_71 : decode cX8_meet 71 = .ok (.iinc 2 1, 3) := by decide +kernel
theorem dX8_meet_74 : decode cX8_meet 74 = .ok (.goto (-60), 3) := by decide +kernel
theorem dX8_meet_77 : decode cX8_meet 77 = .ok (.ldc 140, 2) := by decide +kernel
theorem dX8_meet_79 : decode cX8_meet 79 = .ok (.ireturn, 1) := by decide +kernel
theorem dX8_isCovered_0 : decode cX8_isCovered 0 = .ok (.iload_n 2, 1) := by decide +kernel
theorem dX8_isCovered_1 : decode cX8_isCovered 1 = .ok (.istore 4, 2) := by decide +kernel
theorem dX8_isCovered_3 : decode cX8_isCovered 3 = .ok (.iload 4, 2) := by decide +kernel
theorem dX8_isCovered_5 : decode cX8_isCovered 5 = .ok (.iload_n 3, 1) := by decide +kernel
theorem dX8_isCovered_6 : decode cX8_isCovered 6 = .ok (.if_icmp .gt 72, 3) := by decide +kernel
theorem dX8_isCovered_9 : decode cX8_isCovered 9 = .ok (.iconst 0, 1) := by decide +kernel
theorem dX8_isCovered_10 : decode cX8_isCovered 10 = .ok (.istore 5, 2) := by decide +kernel
theorem dX8_isCovered_12 : decode cX8_isCovered 12 = .ok (.iconst 0, 1) := by decide +kernel
theorem dX8_isCovered_13 : decode cX8_isCovered 13 = .ok (.istore 6, 2) := by decide +kernel
theorem dX8_isCovered_15 : decode cX8_isCovered 15 = .ok (.iload 6, 2) := by decide +kernel
theorem dX8_isCovered_17 : decode cX8_isCovered 17 = .ok (.aload_n 0, 1) := by decide +kernel
theorem dX8_isCovered_18 : decode cX8_isCovered 18 = .ok (.getfield 7, 3) := by decide +kernel
theorem dX8_isCovered_21 : decode cX8_isCovered 21 = .ok (.iconst 0, 1) := by decide +kernel
theorem dX8_isCovered_22 : decode cX8_isCovered 22 = .ok (.iaload, 1) := by decide +kernel
theorem dX8_isCovered_23 : decode cX8_isCovered 23 = .ok (.if_icmp .ge 42, 3) := by decide +kernel
theorem dX8_isCovered_26 : decode cX8_isCovered 26 = .ok (.iload 5, 2) := by decide +kernel
theorem dX8_isCovered_28 : decode cX8_isCovered 28 = .ok (.ifCond .ne 24, 3) := by decide +kernel
theorem dX8_isCovered_31 : decode cX8_isCovered 31 = .ok (.iload_n 1, 1) := by decide +kernel
theorem dX8_isCovered_32 : decode cX8_isCovered 32 = .ok (.iload 6, 2) := by decide +kernel
theorem dX8_isCovered_34 : decode cX8_isCovered 34 = .ok (.invokestatic 131, 3) := by decide +kernel
theorem dX8_isCovered_37 : decode cX8_isCovered 37 = .ok (.ifCond .eq 19, 3) := by decide +kernel
theorem dX8_isCovered_40 : decode cX8_isCovered 40 = .ok (.aload_n 0, 1) := by decide +kernel
theorem dX8_isCovered_41 : decode cX8_isCovered 41 = .ok (.iconst 0, 1) := by decide +kernel
theorem dX8_isCovered_42 : decode cX8_isCovered 42 = .ok (.iload 6, 2) := by decide +kernel
theorem dX8_isCovered_44 : decode cX8_isCovered 44 = .ok (.iload 4, 2) := by decide +kernel
theorem dX8_isCovered_46 : decode cX8_isCovered 46 = .ok (.invokevirtual 137, 3) := by decide +kernel
theorem dX8_isCovered_49 : decode cX8_isCovered 49 = .ok (.ifCond .eq 7, 3) := by decide +kernel
theorem dX8_isCovered_52 : decode cX8_isCovered 52 = .ok (.iconst 1, 1) := by decide +kernel
theorem dX8_isCovered_53 : decode cX8_isCovered 53 = .ok (.goto 4, 3) := by decide +kernel
theorem dX8_isCovered_56 : decode cX8_isCovered 56 = .ok (.iconst 0, 1) := by decide +kernel
theorem dX8_isCovered_57 : decode cX8_isCovered 57 = .ok (.istore 5, 2) := by decide +kernel
theorem dX8_isCovered_59 : decode cX8_isCovered 59 = .ok (.iinc 6 1, 3) := by decide +kernel
theorem dX8_isCovered_62 : decode cX8_isCovered 62 = .ok (.goto (-47), 3) := by decide +kernel
theorem dX8_isCovered_65 : decode cX8_isCovered 65 = .ok (.iload 5, 2) := by decide +kernel
theorem dX8_isCovered_67 : decode cX8_isCovered 67 = .ok (.ifCond .ne 5, 3) := by decide +kernel
theorem dX8_isCovered_70 : decode cX8_isCovered 70 = .ok (.iconst 0, 1) := by decide +kernel
theorem dX8_isCovered_71 : decode cX8_isCovered 71 = .ok (.ireturn, 1) := by decide +kernel
theorem dX8_isCovered_72 : decode cX8_isCovered 72 = .ok (.iinc 4 1, 3) := by decide +kernel
theorem dX8_isCovered_75 : decode cX8_isCovered 75 = .ok (.goto (-72), 3) := by decide +kernel
theorem dX8_isCovered_78 : decode cX8_isCovered 78 = .ok (.iconst 1, 1) := by decide +kernel
theorem dX8_isCovered_79 : decode cX8_isCovered 79 = .ok (.ireturn, 1) := by decide +kernel
theorem dX8_cover_0 : decode cX8_cover 0 = .ok (.aload_n 0, 1) := by decide +kernel
theorem dX8_cover_1 : decode cX8_cover 1 = .ok (.iload_n 1, 1) := by decide +kernel
theorem dX8_cover_2 : decode cX8_cover 2 = .ok (.i2l, 1) := by decide +kernel
theorem dX8_cover_3 : decode cX8_cover 3 = .ok (.invokevirtual 157, 3) := by decide +kernel
theorem dX8_cover_6 : decode cX8_cover 6 = .ok (.ifCond .eq 27, 3) := by decide +kernel
theorem dX8_cover_9 : decode cX8_cover 9 = .ok (.aload_n 0, 1) := by decide +kernel
theorem dX8_cover_10 : decode cX8_cover 10 = .ok (.iload_n 2, 1) := by decide +kernel
theorem dX8_cover_11 : decode cX8_cover 11 = .ok (.i2l, 1) := by decide +kernel
theorem dX8_cover_12 : decode cX8_cover 12 = .ok (.invokevirtual 157, 3) := by decide +kernel
theorem dX8_cover_15 : decode cX8_cover 15 = .ok (.ifCond .eq 18, 3) := by decide +kernel
theorem dX8_cover_18 : decode cX8_cover 18 = .ok (.iload_n 1, 1) := by decide +kernel
theorem dX8_cover_19 : decode cX8_cover 19 = .ok (.iload_n 2, 1) := by decide +kernel
theorem dX8_cover_20 : decode cX8_cover 20 = .ok (.if_icmp .gt 13, 3) := by decide +kernel
theorem dX8_cover_23 : decode cX8_cover 23 = .ok (.iload_n 3, 1) := by decide +kernel
theorem dX8_cover_24 : decode cX8_cover 24 = .ok (.i2l, 1) := by decide +kernel
theorem dX8_cover_25 : decode cX8_cover 25 = .ok (.lconst 0, 1) := by decide +kernel
theorem dX8_cover_26 : decode cX8_cover 26 = .ok (.lconst 1, 1) := by decide +kernel
theorem dX8_cover_27 : decode cX8_cover 27 = .ok (.invokestatic 39, 3) := by decide +kernel
theorem dX8_cover_30 : decode cX8_cover 30 = .ok (.ifCond .ne 6, 3) := by decide +kernel
theorem dX8_cover_33 : decode cX8_cover 33 = .ok (.ldc 49, 2) := by decide +kernel
theorem dX8_cover_35 : decode cX8_cover 35 = .ok (.ireturn, 1) := by decide +kernel
theorem dX8_cover_36 : decode cX8_cover 36 = .ok (.ldc 140, 2) := by decide +kernel
theorem dX8_cover_38 : decode cX8_cover 38 = .ok (.istore 4, 2) := by decide +kernel
theorem dX8_cover_40 : decode cX8_cover 40 = .ok (.iconst 1, 1) := by decide +kernel
theorem dX8_cover_41 : decode cX8_cover 41 = .ok (.istore 5, 2) := by decide +kernel
theorem dX8_cover_43 : decode cX8_cover 43 = .ok (.iload 5, 2) := by decide +kernel
theorem dX8_cover_45 : decode cX8_cover 45 = .ok (.iconst 1, 1) := by decide +kernel
theorem dX8_cover_46 : decode cX8_cover 46 = .ok (.aload_n 0, 1) := by decide +kernel
theorem dX8_cover_47 : decode cX8_cover 47 = .ok (.getfield 7, 3) := by decide +kernel
theorem dX8_cover_50 : decode cX8_cover 50 = .ok (.iconst 0, 1) := by decide +kernel
theorem dX8_cover_51 : decode cX8_cover 51 = .ok (.iaload, 1) := by decide +kernel
theorem dX8_cover_52 : decode cX8_cover 52 = .ok (.ishl, 1) := by decide +kernel
theorem dX8_cover_53 : decode cX8_cover 53 = .ok (.if_icmp .ge 44, 3) := by decide +kernel
theorem dX8_cover_56 : decode cX8_cover 56 = .ok (.aload_n 0, 1) := by decide +kernel
theorem dX8_cover_57 : decode cX8_cover 57 = .ok (.iload 5, 2) := by decide +kernel
theorem dX8_cover_59 : decode cX8_cover 59 = .ok (.iload_n 1, 1) := by decide +kernel
theorem dX8_cover_60 : decode cX8_cover 60 = .ok (.iload_n 2, 1) := by decide +kernel
theorem dX8_cover_61 : decode cX8_cover 61 = .ok (.invokevirtual 283, 3) := by decide +kernel
