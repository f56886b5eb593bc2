theorem dX8_reads_80 : decode cX8_reads 80 = .ok (.aload_n 0, 1) := by decide +kernel
theorem dX8_reads_81 : decode cX8_reads 81 = .ok (.getfield 67, 3) := by decide +kernel
theorem dX8_reads_84 : decode cX8_reads 84 = .ok (.if_icmp .ge 26, 3) := by decide +kernel
theorem dX8_reads_87 : decode cX8_reads 87 = .ok (.aload_n 0, 1) := by decide +kernel
theorem dX8_reads_88 : decode cX8_reads 88 = .ok (.getfield 26, 3) := by decide +kernel
theorem dX8_reads_91 : decode cX8_reads 91 = .ok (.aload_n 0, 1) := by decide +kernel
theorem dX8_reads_92 : decode cX8_reads 92 = .ok (.getfield 71, 3) := by decide +kernel
theorem dX8_reads_95 : decode cX8_reads 95 = .ok (.iaload, 1) := by decide +kernel
theorem dX8_reads_96 : decode cX8_reads 96 = .ok (.invokestatic 100, 3) := by decide +kernel
theorem dX8_reads_99 : decode cX8_reads 99 = .ok (.ifCond .le 11, 3) := by decide +kernel
theorem dX8_reads_102 : decode cX8_reads 102 = .ok (.aload_n 0, 1) := by decide +kernel
theorem dX8_reads_103 : decode cX8_reads 103 = .ok (.invokevirtual 107, 3) := by decide +kernel
theorem dX8_reads_106 : decode cX8_reads 106 = .ok (.istore_n 1, 1) := by decide +kernel
theorem dX8_reads_107 : decode cX8_reads 107 = .ok (.goto (-35), 3) := by decide +kernel
theorem dX8_reads_110 : decode cX8_reads 110 = .ok (.iload_n 1, 1) := by decide +kernel
theorem dX8_reads_111 : decode cX8_reads 111 = .ok (.ifCond .eq 26, 3) := by decide +kernel
theorem dX8_reads_114 : decode cX8_reads 114 = .ok (.aload_n 0, 1) := by decide +kernel
theorem dX8_reads_115 : decode cX8_reads 115 = .ok (.getfield 71, 3) := by decide +kernel
theorem dX8_reads_118 : decode cX8_reads 118 = .ok (.aload_n 0, 1) := by decide +kernel
theorem dX8_reads_119 : decode cX8_reads 119 = .ok (.getfield 67, 3) := by decide +kernel
theorem dX8_reads_122 : decode cX8_reads 122 = .ok (.if_icmp .eq 11, 3) := by decide +kernel
theorem dX8_reads_125 : decode cX8_reads 125 = .ok (.aload_n 0, 1) := by decide +kernel
theorem dX8_reads_126 : decode cX8_reads 126 = .ok (.iconst 1, 1) := by decide +kernel
theorem dX8_reads_127 : decode cX8_reads 127 = .ok (.invokevirtual 84, 3) := by decide +kernel
theorem dX8_reads_130 : decode cX8_reads 130 = .ok (.ifCond .eq 7, 3) := by decide +kernel
theorem dX8_reads_133 : decode cX8_reads 133 = .ok (.iconst 1, 1) := by decide +kernel
theorem dX8_reads_134 : decode cX8_reads 134 = .ok (.goto 4, 3) := by decide +kernel
theorem dX8_reads_137 : decode cX8_reads 137 = .ok (.iconst 0, 1) := by decide +kernel
theorem dX8_reads_138 : decode cX8_reads 138 = .ok (.ireturn, 1) := by decide +kernel
theorem dX8_shelf_0 : decode cX8_shelf 0 = .ok (.aload_n 0, 1) := by decide +kernel
theorem dX8_shelf_1 : decode cX8_shelf 1 = .ok (.invokevirtual 110, 3) := by decide +kernel
theorem dX8_shelf_4 : decode cX8_shelf 4 = .ok (.istore_n 1, 1) := by decide +kernel
theorem dX8_shelf_5 : decode cX8_shelf 5 = .ok (.aload_n 0, 1) := by decide +kernel
theorem dX8_shelf_6 : decode cX8_shelf 6 = .ok (.iconst 0, 1) := by decide +kernel
theorem dX8_shelf_7 : decode cX8_shelf 7 = .ok (.putfield 67, 3) := by decide +kernel
theorem dX8_shelf_10 : decode cX8_shelf 10 = .ok (.iload_n 1, 1) := by decide +kernel
theorem dX8_shelf_11 : decode cX8_shelf 11 = .ok (.ifCond .ne 19, 3) := by decide +kernel
theorem dX8_shelf_14 : decode cX8_shelf 14 = .ok (.aload_n 0, 1) := by decide +kernel
theorem dX8_shelf_15 : decode cX8_shelf 15 = .ok (.aload_n 0, 1) := by decide +kernel
theorem dX8_shelf_16 : decode cX8_shelf 16 = .ok (.getfield 78, 3) := by decide +kernel
theorem dX8_shelf_19 : decode cX8_shelf 19 = .ok (.putfield 113, 3) := by decide +kernel
theorem dX8_shelf_22 : decode cX8_shelf 22 = .ok (.ldc 116, 2) := by decide +kernel
theorem dX8_shelf_24 : decode cX8_shelf 24 = .ok (.aload_n 0, 1) := by decide +kernel
theorem dX8_shelf_25 : decode cX8_shelf 25 = .ok (.getfield 71, 3) := by decide +kernel
theorem dX8_shelf_28 : decode cX8_shelf 28 = .ok (.isub, 1) := by decide +kernel
theorem dX8_shelf_29 : decode cX8_shelf 29 = .ok (.ireturn, 1) := by decide +kernel
theorem dX8_shelf_30 : decode cX8_shelf 30 = .ok (.aload_n 0, 1) := by decide +kernel
theorem dX8_shelf_31 : decode cX8_shelf 31 = .ok (.sipush 3618, 3) := by decide +kernel
theorem dX8_shelf_34 : decode cX8_shelf 34 = .ok (.iconst 0, 1) := by decide +kernel
theorem dX8_shelf_35 : decode cX8_shelf 35 = .ok (.invokevirtual 117, 3) := by decide +kernel
theorem dX8_shelf_38 : decode cX8_shelf 38 = .ok (.aload_n 0, 1) := by decide +kernel
theorem dX8_shelf_39 : decode cX8_shelf 39 = .ok (.iconst 0, 1) := by decide +kernel
theorem dX8_shelf_40 : decode cX8_shelf 40 = .ok (.putfield 121, 3) := by decide +kernel
theorem dX8_shelf_43 : decode cX8_shelf 43 = .ok (.aload_n 0, 1) := by decide +kernel
theorem dX8_shelf_44 : decode cX8_shelf 44 = .ok (.getfield 7, 3) := by decide +kernel
theorem dX8_shelf_47 : decode cX8_shelf 47 = .ok (.iconst 0, 1) := by decide +kernel
theorem dX8_shelf_48 : decode cX8_shelf 48 = .ok (.iaload, 1) := by decide +kernel
theorem dX8_shelf_49 : decode cX8_shelf 49 = .ok (.ireturn, 1) := by decide +kernel
theorem dX8_fault_0 : decode cX8_fault 0 = .ok (.aload_n 0, 1) := by decide +kernel
theorem dX8_fault_1 : decode cX8_fault 1 = .ok (.getfield 113, 3) := by decide +kernel
theorem dX8_fault_4 : decode cX8_fault 4 = .ok (.ireturn, 1) := by decide +kernel
theorem dX8_copyShelf_0 : decode cX8_copyShelf 0 = .ok (.iconst 0, 1) := by decide +kernel
theorem dX8_copyShelf_1 : decode cX8_copyShelf 1 = .ok (.istore_n 3, 1) := by decide +kernel
theorem dX8_copyShelf_2 : decode cX8_copyShelf 2 = .ok (.iload_n 3, 1) := by decide +kernel
theorem dX8_copyShelf_3 : decode cX8_copyShelf 3 = .ok (.sipush 134, 3) := by decide +kernel
theorem dX8_copyShelf_6 : decode cX8_copyShelf 6 = .ok (.if_icmp .ge 25, 3) := by decide +kernel
theorem dX8_copyShelf_9 : decode cX8_copyShelf 9 = .ok (.aload_n 0, 1) := by decide +kernel
theorem dX8_copyShelf_10 : decode cX8_copyShelf 10 = .ok (.getfield 7, 3) := by decide +kernel
theorem dX8_copyShelf_13 : decode cX8_copyShelf 13 = .ok (.iload_n 2, 1) := by decide +kernel
theorem dX8_copyShelf_14 : decode cX8_copyShelf 14 = .ok (.iload_n 3, 1) := by decide +kernel
theorem dX8_copyShelf_15 : decode cX8_copyShelf 15 = .ok (.iadd, 1) := by decide +kernel
theorem dX8_copyShelf_16 : decode cX8_copyShelf 16 = .ok (.aload_n 0, 1) := by decide +kernel
theorem dX8_copyShelf_17 : decode cX8_copyShelf 17 = .ok (.getfield 7, 3) := by decide +kernel
theorem dX8_copyShelf_20 : decode cX8_copyShelf 20 = .ok (.iload_n 1, 1) := by decide +kernel
theorem dX8_copyShelf_21 : decode cX8_copyShelf 21 = .ok (.iload_n 3, 1) := by decide +kernel
theorem dX8_copyShelf_22 : decode cX8_copyShelf 22 = .ok (.iadd, 1) := by decide +kernel
theorem dX8_copyShelf_23 : decode cX8_copyShelf 23 = .ok (.iaload, 1) := by decide +kernel
theorem dX8_copyShelf_24 : decode cX8_copyShelf 24 = .ok (.iastore, 1) := by decide +kernel
theorem dX8_copyShelf_25 : decode cX8_copyShelf 25 = .ok (.iinc 3 1, 3) := by decide +kernel
theorem dX8_copyShelf_28 : decode cX8_copyShelf 28 = .ok (.goto (-26), 3) := by decide +kernel
theorem dX8_copyShelf_31 : decode cX8_copyShelf 31 = .ok (.return_, 1) := by decide +kernel
theorem dX8_isShelf_0 : decode cX8_isShelf 0 = .ok (.aload_n 0, 1) := by decide +kernel
theorem dX8_isShelf_1 : decode cX8_isShelf 1 = .ok (.getfield 7, 3) := by decide +kernel
theorem dX8_isShelf_4 : decode cX8_isShelf 4 = .ok (.iconst 1, 1) := by decide +kernel
theorem dX8_isShelf_5 : decode cX8_isShelf 5 = .ok (.iaload, 1) := by decide +kernel
theorem dX8_isShelf_6 : decode cX8_isShelf 6 = .ok (.ifCond .le 7, 3) := by decide +kernel
theorem dX8_isShelf_9 : decode cX8_isShelf 9 = .ok (.iconst 1, 1) := by decide +kernel
theorem dX8_isShelf_10 : decode cX8_isShelf 10 = .ok (.goto 4, 3) := by decide +kernel
theorem dX8_isShelf_13 : decode cX8_isShelf 13 = .ok (.iconst 0, 1) := by decide +kernel
theorem dX8_isShelf_14 : decode cX8_isShelf 14 = .ok (.ireturn, 1) := by decide +kernel
theorem dX8_isSet_0 : decode cX8_isSet 0 = .ok (.iload_n 1, 1) := by decide +kernel
theorem dX8_isSet_1 : decode cX8_isSet 1 = .ok (.i2l, 1) := by decide +kernel
theorem dX8_isSet_2 : decode cX8_isSet 2 = .ok (.lconst 0, 1) := by decide +kernel
theorem dX8_isSet_3 : decode cX8_isSet 3 = .ok (.aload_n 0, 1) := by decide +kernel
theorem dX8_isSet_4 : decode cX8_isSet 4 = .ok (.getfield 7, 3) := by decide +kernel
theorem dX8_isSet_7 : decode cX8_isSet 7 = .ok (.iconst 0, 1) := by decide +kernel
theorem dX8_isSet_8 : decode cX8_isSet 8 = .ok (.iaload, 1) := by decide +kernel
theorem dX8_isSet_9 : decode cX8_isSet 9 = .ok (.iconst 1, 1) := by decide +kernel
theorem dX8_isSet_10 : decode cX8_isSet 10 = .ok (.isub, 1) := by decide +kernel
theorem dX8_isSet_11 : decode cX8_isSet 11 = .ok (.i2l, 1) := by decide +kernel
theorem dX8_isSet_12 : decode cX8_isSet 12 = .ok (.invokestatic 39, 3) := by decide +kernel
theorem dX8_isSet_15 : decode cX8_isSet 15 = .ok (.ireturn, 1) := by decide +kernel
theorem dX8_top_0 : decode cX8_top 0 = .ok (.aload_n 0, 1) := by decide +kernel
theorem dX8_top_1 : decode cX8_top 1 = .ok (.invokevirtual 124, 3) := by decide +kernel
theorem dX8_top_4 : decode cX8_top 4 = .ok (.ifCond .eq 14, 3) := by decide +kernel
theorem dX8_top_7 : decode cX8_top 7 = .ok (.iconst 1, 1) := by decide +kernel
theorem dX8_top_8 : decode cX8_top 8 = .ok (.aload_n 0, 1) := by decide +kernel
theorem dX8_top_9 : decode cX8_top 9 = .ok (.getfield 7, 3) := by decide +kernel
theorem dX8_top_12 : decode cX8_top 12 = .ok (.iconst 1, 1) := by decide +kernel
theorem dX8_top_13 : decode cX8_top 13 = .ok (.iaload, 1) := by decide +kernel
theorem dX8_top_14 : decode cX8_top 14 = .ok (.ishl, 1) := by decide +kernel
theorem dX8_top_15 : decode cX8_top 15 = .ok (.goto 4, 3) := by decide +kernel
theorem dX8_top_18 : decode cX8_top 18 = .ok (.iconst 0, 1) := by decide +kernel
theorem dX8_top_19 : decode cX8_top 19 = .ok (.ireturn, 1) := by decide +kernel
theorem dX8_isKey_0 : decode cX8_isKey 0 = .ok (.lload_n 1, 1) := by decide +kernel
theorem dX8_isKey_1 : decode cX8_isKey 1 = .ok (.lconst 0, 1) := by decide +kernel
theorem dX8_isKey_2 : decode cX8_isKey 2 = .ok (.aload_n 0, 1) := by decide +kernel
theorem dX8_isKey_3 : decode cX8_isKey 3 = .ok (.invokevirtual 127, 3) := by decide +kernel
theorem dX8_isKey_6 : decode cX8_isKey 6 = .ok (.iconst 1, 1) := by decide +kernel
theorem dX8_isKey_7 : decode cX8_isKey 7 = .ok (.isub, 1) := by decide +kernel
theorem dX8_isKey_8 : decode cX8_isKey 8 = .ok (.i2l, 1) := by decide +kernel
theorem dX8_isKey_9 : decode cX8_isKey 9 = .ok (.invokestatic 39, 3) := by decide +kernel
theorem dX8_isKey_12 : decode cX8_isKey 12 = .ok (.ireturn, 1) := by decide +kernel
theorem dX8_hasKey_0 : decode cX8_hasKey 0 = .ok (.aload_n 0, 1) := by decide +kernel
theorem dX8_hasKey_1 : decode cX8_hasKey 1 = .ok (.getfield 7, 3) := by decide +kernel
theorem dX8_hasKey_4 : decode cX8_hasKey 4 = .ok (.iload_n 1, 1) := by decide +kernel
theorem dX8_hasKey_5 : decode cX8_hasKey 5 = .ok (.bipush 6, 2) := by decide +kernel
theorem dX8_hasKey_7 : decode cX8_hasKey 7 = .ok (.iadd, 1) := by decide +kernel
theorem dX8_hasKey_8 : decode cX8_hasKey 8 = .ok (.bipush 32, 2) := by decide +kernel
theorem dX8_hasKey_10 : decode cX8_hasKey 10 = .ok (.iload_n 2, 1) := by decide +kernel
theorem dX8_hasKey_11 : decode cX8_hasKey 11 = .ok (.imul, 1) := by decide +kernel
theorem dX8_hasKey_12 : decode cX8_hasKey 12 = .ok (.iadd, 1) := by decide +kernel
theorem dX8_hasKey_13 : decode cX8_hasKey 13 = .ok (.iload_n 3, 1) := by decide +kernel
theorem dX8_hasKey_14 : decode cX8_hasKey 14 = .ok (.bipush 32, 2) := by decide +kernel
theorem dX8_hasKey_16 : decode cX8_hasKey 16 = .ok (.idiv, 1) := by decide +kernel
theorem dX8_hasKey_17 : decode cX8_hasKey 17 = .ok (.iadd, 1) := by decide +kernel
theorem dX8_hasKey_18 : decode cX8_hasKey 18 = .ok (.iaload, 1) := by decide +kernel
theorem dX8_hasKey_19 : decode cX8_hasKey 19 = .ok (.iload_n 3, 1) := by decide +kernel
theorem dX8_hasKey_20 : decode cX8_hasKey 20 = .ok (.bipush 32, 2) := by decide +kernel
theorem dX8_hasKey_22 : decode cX8_hasKey 22 = .ok (.irem, 1) := by decide +kernel
theorem dX8_hasKey_23 : decode cX8_hasKey 23 = .ok (.invokestatic 131, 3) := by decide +kernel
theorem dX8_hasKey_26 : decode cX8_hasKey 26 = .ok (.ireturn, 1) := by decide +kernel
theorem dX8_turnKey_0 : decode cX8_turnKey 0 = .ok (.aload_n 0, 1) := by decide +kernel
theorem dX8_turnKey_1 : decode cX8_turnKey 1 = .ok (.getfield 7, 3) := by decide +kernel
theorem dX8_turnKey_4 : decode cX8_turnKey 4 = .ok (.iload_n 1, 1) := by decide +kernel
theorem dX8_turnKey_5 : decode cX8_turnKey 5 = .ok (.bipush 6, 2) := by decide +kernel
theorem dX8_turnKey_7 : decode cX8_turnKey 7 = .ok (.iadd, 1) := by decide +kernel
theorem dX8_turnKey_8 : decode cX8_turnKey 8 = .ok (.bipush 32, 2) := by decide +kernel
theorem dX8_turnKey_10 : decode cX8_turnKey 10 = .ok (.iload_n 2, 1) := by decide +kernel
theorem dX8_turnKey_11 : decode cX8_turnKey 11 = .ok (.imul, 1) := by decide +kernel
theorem dX8_turnKey_12 : decode cX8_turnKey 12 = .ok (.iadd, 1) := by decide +kernel
theorem dX8_turnKey_13 : decode cX8_turnKey 13 = .ok (.iload_n 3, 1) := by decide +kernel
theorem dX8_turnKey_14 : decode cX8_turnKey 14 = .ok (.bipush 32, 2) := by decide +kernel
theorem dX8_turnKey_16 : decode cX8_turnKey 16 = .ok (.idiv, 1) := by decide +kernel
theorem dX8_turnKey_17 : decode cX8_turnKey 17 = .ok (.iadd, 1) := by decide +kernel
theorem dX8_turnKey_18 : decode cX8_turnKey 18 = .ok (.dup2, 1) := by decide +kernel
theorem dX8_turnKey_19 : decode cX8_turnKey 19 = .ok (.iaload, 1) := by decide +kernel
theorem dX8_turnKey_20 : decode cX8_turnKey 20 = .ok (.iconst 1, 1) := by decide +kernel
theorem dX8_turnKey_21 : decode cX8_turnKey 21 = .ok (.iload_n 3, 1) := by decide +kernel
theorem dX8_turnKey_22 : decode cX8_turnKey 22 = .ok (.bipush 32, 2) := by decide +kernel
theorem dX8_turnKey_24 : decode cX8_turnKey 24 = .ok (.irem, 1) := by decide +kernel
theorem dX8_turnKey_25 : decode cX8_turnKey 25 = .ok (.ishl, 1) := by decide +kernel
theorem dX8_turnKey_26 : decode cX8_turnKey 26 = .ok (.ixor, 1) := by decide +kernel
theorem dX8_turnKey_27 : decode cX8_turnKey 27 = .ok (.iastore, 1) := by decide +kernel
theorem dX8_turnKey_28 : decode cX8_turnKey 28 = .ok (.return_, 1) := by decide +kernel
theorem dX8_keysOf_0 : decode cX8_keysOf 0 = .ok (.iconst 0, 1) := by decide +kernel
theorem dX8_keysOf_1 : decode cX8_keysOf 1 = .ok (.istore_n 3, 1) := by decide +kernel
theorem dX8_keysOf_2 : decode cX8_keysOf 2 = .ok (.iconst 0, 1) := by decide +kernel
theorem dX8_keysOf_3 : decode cX8_keysOf 3 = .ok (.istore 4, 2) := by decide +kernel
theorem dX8_keysOf_5 : decode cX8_keysOf 5 = .ok (.iload 4, 2) := by decide +kernel
theorem dX8_keysOf_7 : decode cX8_keysOf 7 = .ok (.bipush 32, 2) := by decide +kernel
theorem dX8_keysOf_9 : decode cX8_keysOf 9 = .ok (.if_icmp .ge 32, 3) := by decide +kernel
theorem dX8_keysOf_12 : decode cX8_keysOf 12 = .ok (.iload_n 3, 1) := by decide +kernel
theorem dX8_keysOf_13 : decode cX8_keysOf 13 = .ok (.aload_n 0, 1) := by decide +kernel
theorem dX8_keysOf_14 : decode cX8_keysOf 14 = .ok (.getfield 7, 3) := by decide +kernel
theorem dX8_keysOf_17 : decode cX8_keysOf 17 = .ok (.iload_n 1, 1) := by decide +kernel
theorem dX8_keysOf_18 : decode cX8_keysOf 18 = .ok (.bipush 6, 2) := by decide +kernel
theorem dX8_keysOf_20 : decode cX8_keysOf 20 = .ok (.iadd, 1) := by decide +kernel
theorem dX8_keysOf_21 : decode cX8_keysOf 21 = .ok (.bipush 32, 2) := by decide +kernel
theorem dX8_keysOf_23 : decode cX8_keysOf 23 = .ok (.iload_n 2, 1) := by decide +kernel
theorem dX8_keysOf_24 : decode cX8_keysOf 24 = .ok (.imul, 1) := by decide +kernel
theorem dX8_keysOf_25 : decode cX8_keysOf 25 = .ok (.iadd, 1) := by decide +kernel
theorem dX8_keysOf_26 : decode cX8_keysOf 26 = .ok (.iload 4, 2) := by decide +kernel
theorem dX8_keysOf_28 : decode cX8_keysOf 28 = .ok (.iadd, 1) := by decide +kernel
theorem dX8_keysOf_29 : decode cX8_keysOf 29 = .ok (.iaload, 1) := by decide +kernel
theorem dX8_keysOf_30 : decode cX8_keysOf 30 = .ok (.invokestatic 134, 3) := by decide +kernel
theorem dX8_keysOf_33 : decode cX8_keysOf 33 = .ok (.iadd, 1) := by decide +kernel
theorem dX8_keysOf_34 : decode cX8_keysOf 34 = .ok (.istore_n 3, 1) := by decide +kernel
theorem dX8_keysOf_35 : decode cX8_keysOf 35 = .ok (.iinc 4 1, 3) := by decide +kernel
theorem dX8_keysOf_38 : decode cX8_keysOf 38 = .ok (.goto (-33), 3) := by decide +kernel
theorem dX8_keysOf_41 : decode cX8_keysOf 41 = .ok (.iload_n 3, 1) := by decide +kernel
theorem dX8_keysOf_42 : decode cX8_keysOf 42 = .ok (.ireturn, 1) := by decide +kernel
theorem dX8_above_0 : decode cX8_above 0 = .ok (.iload_n 2, 1) := by decide +kernel
theorem dX8_above_1 : decode cX8_above 1 = .ok (.iconst 1, 1) := by decide +kernel
theorem dX8_above_2 : decode cX8_above 2 = .ok (.iadd, 1) := by decide +kernel
theorem dX8_above_3 : decode cX8_above 3 = .ok (.istore_n 3, 1) := by decide +kernel
theorem dX8_above_4 : decode cX8_above 4 = .ok (.iload_n 3, 1) := by decide +kernel
theorem dX8_above_5 : decode cX8_above 5 = .ok (.aload_n 0, 1) := by decide +kernel
theorem dX8_above_6 : decode cX8_above 6 = .ok (.invokevirtual 127, 3) := by decide +kernel
theorem dX8_above_9 : decode cX8_above 9 = .ok (.if_icmp .ge 19, 3) := by decide +kernel
theorem dX8_above_12 : decode cX8_above 12 = .ok (.aload_n 0, 1) := by decide +kernel
theorem dX8_above_13 : decode cX8_above 13 = .ok (.iconst 0, 1) := by decide +kernel
theorem dX8_above_14 : decode cX8_above 14 = .ok (.iload_n 1, 1) := by decide +kernel
theorem dX8_above_15 : decode cX8_above 15 = .ok (.iload_n 3, 1) := by decide +kernel
theorem dX8_above_16 : decode cX8_above 16 = .ok (.invokevirtual 137, 3) := by decide +kernel
theorem dX8_above_19 : decode cX8_above 19 = .ok (.ifCond .ne 9, 3) := by decide +kernel
theorem dX8_above_22 : decode cX8_above 22 = .ok (.iinc 3 1, 3) := by decide +kernel
theorem dX8_above_25 : decode cX8_above 25 = .ok (.goto (-21), 3) := by decide +kernel
theorem dX8_above_28 : decode cX8_above 28 = .ok (.iload_n 3, 1) := by decide +kernel
theorem dX8_above_29 : decode cX8_above 29 = .ok (.aload_n 0, 1) := by decide +kernel
theorem dX8_above_30 : decode cX8_above 30 = .ok (.invokevirtual 127, 3) := by decide +kernel
theorem dX8_above_33 : decode cX8_above 33 = .ok (.if_icmp .lt 8, 3) := by decide +kernel
theorem dX8_above_36 : decode cX8_above 36 = .ok (.ldc 140, 2) := by decide +kernel
theorem dX8_above_38 : decode cX8_above 38 = .ok (.goto 4, 3) := by decide +kernel
theorem dX8_above_41 : decode cX8_above 41 = .ok (.iload_n 3, 1) := by decide +kernel
theorem dX8_above_42 : decode cX8_above 42 = .ok (.ireturn, 1) := by decide +kernel
theorem dX8_below_0 : decode cX8_below 0 = .ok (.iload_n 2, 1) := by decide +kernel
theorem dX8_below_1 : decode cX8_below 1 = .ok (.iconst 1, 1) := by decide +kernel
theorem dX8_below_2 : decode cX8_below 2 = .ok (.isub, 1) := by decide +kernel
theorem dX8_below_3 : decode cX8_below 3 = .ok (.istore_n 3, 1) := by decide +kernel
theorem dX8_below_4 : decode cX8_below 4 = .ok (.iload_n 3, 1) := by decide +kernel
theorem dX8_below_5 : decode cX8_below 5 = .ok (.ifCond .lt 19, 3) := by decide +kernel
theorem dX8_below_8 : decode cX8_below 8 = .ok (.aload_n 0, 1) := by decide +kernel
theorem dX8_below_9 : decode cX8_below 9 = .ok (.iconst 0, 1) := by decide +kernel
theorem dX8_below_10 : decode cX8_below 10 = .ok (.iload_n 1, 1) := by decide +kernel
theorem dX8_below_11 : decode cX8_below 11 = .ok (.iload_n 3, 1) := by decide +kernel
theorem dX8_below_12 : decode cX8_below 12 = .ok (.invokevirtual 137, 3) := by decide +kernel
theorem dX8_below_15 : decode cX8_below 15 = .ok (.ifCond .ne 9, 3) := by decide +kernel
theorem dX8_below_18 : decode cX8_below 18 = .ok (.iinc 3 (-1), 3) := by decide +kernel
theorem dX8_below_21 : decode cX8_below 21 = .ok (.goto (-17), 3) := by decide +kernel
theorem dX8_below_24 : decode cX8_below 24 = .ok (.iload_n 3, 1) := by decide +kernel
theorem dX8_below_25 : decode cX8_below 25 = .ok (.ifCond .ge 8, 3) := by decide +kernel
theorem dX8_below_28 : decode cX8_below 28 = .ok (.ldc 140, 2) := by decide +kernel
theorem dX8_below_30 : decode cX8_below 30 = .ok (.goto 4, 3) := by decide +kernel
theorem dX8_below_33 : decode cX8_below 33 = .ok (.iload_n 3, 1) := by decide +kernel
theorem dX8_below_34 : decode cX8_below 34 = .ok (.ireturn, 1) := by decide +kernel
theorem dX8_leastOf_0 : decode cX8_leastOf 0 = .ok (.aload_n 0, 1) := by decide +kernel
theorem dX8_leastOf_1 : decode cX8_leastOf 1 = .ok (.iload_n 1, 1) := by decide +kernel
theorem dX8_leastOf_2 : decode cX8_leastOf 2 = .ok (.iconst (-1), 1) := by decide +kernel
theorem dX8_leastOf_3 : decode cX8_leastOf 3 = .ok (.invokevirtual 141, 3) := by decide +kernel
theorem dX8_leastOf_6 : decode cX8_leastOf 6 = .ok (.ireturn, 1) := by decide +kernel
theorem dX8_greatestOf_0 : decode cX8_greatestOf 0 = .ok (.aload_n 0, 1) := by decide +kernel
theorem dX8_greatestOf_1 : decode cX8_greatestOf 1 = .ok (.iload_n 1, 1) := by decide +kernel
theorem dX8_greatestOf_2 : decode cX8_greatestOf 2 = .ok (.aload_n 0, 1) := by decide +kernel
theorem dX8_greatestOf_3 : decode cX8_greatestOf 3 = .ok (.invokevirtual 127, 3) := by decide +kernel
theorem dX8_greatestOf_6 : decode cX8_greatestOf 6 = .ok (.invokevirtual 144, 3) := by decide +kernel
theorem dX8_greatestOf_9 : decode cX8_greatestOf 9 = .ok (.ireturn, 1) := by decide +kernel
theorem dX8_nextOf_0 : decode cX8_nextOf 0 = .ok (.aload_n 0, 1) := by decide +kernel
theorem dX8_nextOf_1 : decode cX8_nextOf 1 = .ok (.iload_n 1, 1) := by decide +kernel
theorem dX8_nextOf_2 : decode cX8_nextOf 2 = .ok (.iload_n 2, 1) := by decide +kernel
theorem dX8_nextOf_3 : decode cX8_nextOf 3 = .ok (.invokevirtual 141, 3) := by decide +kernel
theorem dX8_nextOf_6 : decode cX8_nextOf 6 = .ok (.istore_n 3, 1) := by decide +kernel
theorem dX8_nextOf_7 : decode cX8_nextOf 7 = .ok (.aload_n 0, 1) := by decide +kernel
theorem dX8_nextOf_8 : decode cX8_nextOf 8 = .ok (.iload_n 1, 1) := by decide +kernel
theorem dX8_nextOf_9 : decode cX8_nextOf 9 = .ok (.iload_n 2, 1) := by decide +kernel
theorem dX8_nextOf_10 : decode cX8_nextOf 10 = .ok (.invokevirtual 144, 3) := by decide +kernel
theorem dX8_nextOf_13 : decode cX8_nextOf 13 = .ok (.istore 4, 2) := by decide +kernel
theorem dX8_nextOf_15 : decode cX8_nextOf 15 = .ok (.aload_n 0, 1) := by decide +kernel
theorem dX8_nextOf_16 : decode cX8_nextOf 16 = .ok (.getfield 7, 3) := by decide +kernel
theorem dX8_nextOf_19 : decode cX8_nextOf 19 = .ok (.iconst 2, 1) := by decide +kernel
theorem dX8_nextOf_20 : decode cX8_nextOf 20 = .ok (.iload_n 1, 1) := by decide +kernel
theorem dX8_nextOf_21 : decode cX8_nextOf 21 = .ok (.iadd, 1) := by decide +kernel
theorem dX8_nextOf_22 : decode cX8_nextOf 22 = .ok (.iaload, 1) := by decide +kernel
theorem dX8_nextOf_23 : decode cX8_nextOf 23 = .ok (.tableswitch 82 2 5 #[29, 45, 61, 64], 29) := by decide +kernel
theorem dX8_nextOf_52 : decode cX8_nextOf 52 = .ok (.iload_n 3, 1) := by decide +kernel
theorem dX8_nextOf_53 : decode cX8_nextOf 53 = .ok (.ldc 140, 2) := by decide +kernel
theorem dX8_nextOf_55 : decode cX8_nextOf 55 = .ok (.if_icmp .ne 11, 3) := by decide +kernel
theorem dX8_nextOf_58 : decode cX8_nextOf 58 = .ok (.aload_n 0, 1) := by decide +kernel
theorem dX8_nextOf_59 : decode cX8_nextOf 59 = .ok (.iload_n 1, 1) := by decide +kernel
theorem dX8_nextOf_60 : decode cX8_nextOf 60 = .ok (.invokevirtual 147, 3) := by decide +kernel
theorem dX8_nextOf_63 : decode cX8_nextOf 63 = .ok (.goto 4, 3) := by decide +kernel
theorem dX8_nextOf_66 : decode cX8_nextOf 66 = .ok (.iload_n 3, 1) := by decide +kernel
theorem dX8_nextOf_67 : decode cX8_nextOf 67 = .ok (.ireturn, 1) := by decide +kernel
theorem dX8_nextOf_68 : decode cX8_nextOf 68 = .ok (.aload_n 0, 1) := by decide +kernel
theorem dX8_nextOf_69 : decode cX8_nextOf 69 = .ok (.iconst 0, 1) := by decide +kernel
theorem dX8_nextOf_70 : decode cX8_nextOf 70 = .ok (.iload_n 1, 1) := by decide +kernel
theorem dX8_nextOf_71 : decode cX8_nextOf 71 = .ok (.iload_n 2, 1) := by decide +kernel
theorem dX8_nextOf_72 : decode cX8_nextOf 72 = .ok (.invokevirtual 137, 3) := by decide +kernel
theorem dX8_nextOf_75 : decode cX8_nextOf 75 = .ok (.ifCond .eq 7, 3) := by decide +kernel
theorem dX8_nextOf_78 : decode cX8_nextOf 78 = .ok (.iload_n 2, 1) := by decide +kernel
theorem dX8_nextOf_79 : decode cX8_nextOf 79 = .ok (.goto 4, 3) := by decide +kernel
theorem dX8_nextOf_82 : decode cX8_nextOf 82 = .ok (.iload_n 3, 1) := by decide +kernel
theorem dX8_nextOf_83 : decode cX8_nextOf 83 = .ok (.ireturn, 1) := by decide +kernel
theorem dX8_nextOf_84 : decode cX8_nextOf 84 = .ok (.iload 4, 2) := by decide +kernel
theorem dX8_nextOf_86 : decode cX8_nextOf 86 = .ok (.ireturn, 1) := by decide +kernel
theorem dX8_nextOf_87 : decode cX8_nextOf 87 = .ok (.iload 4, 2) := by decide +kernel
theorem dX8_nextOf_89 : decode cX8_nextOf 89 = .ok (.ldc 140, 2) := by decide +kernel
theorem dX8_nextOf_91 : decode cX8_nextOf 91 = .ok (.if_icmp .ne 11, 3) := by decide +kernel
theorem dX8_nextOf_94 : decode cX8_nextOf 94 = .ok (.aload_n 0, 1) := by decide +kernel
theorem dX8_nextOf_95 : decode cX8_nextOf 95 = .ok (.iload_n 1, 1) := by decide +kernel
theorem dX8_nextOf_96 : decode cX8_nextOf 96 = .ok (.invokevirtual 150, 3) := by decide +kernel
theorem dX8_nextOf_99 : decode cX8_nextOf 99 = .ok (.goto 5, 3) := by decide +kernel
theorem dX8_nextOf_102 : decode cX8_nextOf 102 = .ok (.iload 4, 2) := by decide +kernel
theorem dX8_nextOf_104 : decode cX8_nextOf 104 = .ok (.ireturn, 1) := by decide +kernel
theorem dX8_nextOf_105 : decode cX8_nextOf 105 = .ok (.iload_n 3, 1) := by decide +kernel
theorem dX8_nextOf_106 : decode cX8_nextOf 106 = .ok (.ireturn, 1) := by decide +kernel
theorem dX8_keepPast_0 : decode cX8_keepPast 0 = .ok (.iconst 0, 1) := by decide +kernel
theorem dX8_keepPast_1 : decode cX8_keepPast 1 = .ok (.istore_n 1, 1) := by decide +kernel
theorem dX8_keepPast_2 : decode cX8_keepPast 2 = .ok (.iload_n 1, 1) := by decide +kernel
theorem dX8_keepPast_3 : decode cX8_keepPast 3 = .ok (.sipush 3082, 3) := by decide +kernel
theorem dX8_keepPast_6 : decode cX8_keepPast 6 = .ok (.if_icmp .ge 38, 3) := by decide +kernel
theorem dX8_keepPast_9 : decode cX8_keepPast 9 = .ok (.aload_n 0, 1) := by decide +kernel
theorem dX8_keepPast_10 : decode cX8_keepPast 10 = .ok (.getfield 121, 3) := by decide +kernel
theorem dX8_keepPast_13 : decode cX8_keepPast 13 = .ok (.bipush 24, 2) := by decide +kernel
theorem dX8_keepPast_15 : decode cX8_keepPast 15 = .ok (.if_icmp .ne 29, 3) := by decide +kernel
theorem dX8_keepPast_18 : decode cX8_keepPast 18 = .ok (.aload_n 0, 1) := by decide +kernel
theorem dX8_keepPast_19 : decode cX8_keepPast 19 = .ok (.getfield 7, 3) := by decide +kernel
theorem dX8_keepPast_22 : decode cX8_keepPast 22 = .ok (.sipush 134, 3) := by decide +kernel
theorem dX8_keepPast_25 : decode cX8_keepPast 25 = .ok (.iload_n 1, 1) := by decide +kernel
theorem dX8_keepPast_26 : decode cX8_keepPast 26 = .ok (.iadd, 1) := by decide +kernel
theorem dX8_keepPast_27 : decode cX8_keepPast 27 = .ok (.aload_n 0, 1) := by decide +kernel
theorem dX8_keepPast_28 : decode cX8_keepPast 28 = .ok (.getfield 7, 3) := by decide +kernel
theorem dX8_keepPast_31 : decode cX8_keepPast 31 = .ok (.sipush 268, 3) := by decide +kernel
theorem dX8_keepPast_34 : decode cX8_keepPast 34 = .ok (.iload_n 1, 1) := by decide +kernel
theorem dX8_keepPast_35 : decode cX8_keepPast 35 = .ok (.iadd, 1) := by decide +kernel
theorem dX8_keepPast_36 : decode cX8_keepPast 36 = .ok (.iaload, 1) := by decide +kernel
theorem dX8_keepPast_37 : decode cX8_keepPast 37 = .ok (.iastore, 1) := by decide +kernel
theorem dX8_keepPast_38 : decode cX8_keepPast 38 = .ok (.iinc 1 1, 3) := by decide +kernel
theorem dX8_keepPast_41 : decode cX8_keepPast 41 = .ok (.goto (-39), 3) := by decide +kernel
theorem dX8_keepPast_44 : decode cX8_keepPast 44 = .ok (.aload_n 0, 1) := by decide +kernel
theorem dX8_keepPast_45 : decode cX8_keepPast 45 = .ok (.dup, 1) := by decide +kernel
theorem dX8_keepPast_46 : decode cX8_keepPast 46 = .ok (.getfield 121, 3) := by decide +kernel
theorem dX8_keepPast_49 : decode cX8_keepPast 49 = .ok (.aload_n 0, 1) := by decide +kernel
theorem dX8_keepPast_50 : decode cX8_keepPast 50 = .ok (.getfield 121, 3) := by decide +kernel
theorem dX8_keepPast_53 : decode cX8_keepPast 53 = .ok (.bipush 24, 2) := by decide +kernel
theorem dX8_keepPast_55 : decode cX8_keepPast 55 = .ok (.if_icmp .ne 7, 3) := by decide +kernel
theorem dX8_keepPast_58 : decode cX8_keepPast 58 = .ok (.iconst 1, 1) := by decide +kernel
theorem dX8_keepPast_59 : decode cX8_keepPast 59 = .ok (.goto 4, 3) := by decide +kernel
theorem dX8_keepPast_62 : decode cX8_keepPast 62 = .ok (.iconst 0, 1) := by decide +kernel
theorem dX8_keepPast_63 : decode cX8_keepPast 63 = .ok (.isub, 1) := by decide +kernel
theorem dX8_keepPast_64 : decode cX8_keepPast 64 = .ok (.putfield 121, 3) := by decide +kernel
theorem dX8_keepPast_67 : decode cX8_keepPast 67 = .ok (.aload_n 0, 1) := by decide +kernel
theorem dX8_keepPast_68 : decode cX8_keepPast 68 = .ok (.iconst 0, 1) := by decide +kernel
theorem dX8_keepPast_69 : decode cX8_keepPast 69 = .ok (.sipush 134, 3) := by decide +kernel
theorem dX8_keepPast_72 : decode cX8_keepPast 72 = .ok (.sipush 134, 3) := by decide +kernel
theorem dX8_keepPast_75 : decode cX8_keepPast 75 = .ok (.aload_n 0, 1) := by decide +kernel
theorem dX8_keepPast_76 : decode cX8_keepPast 76 = .ok (.getfield 121, 3) := by decide +kernel
theorem dX8_keepPast_79 : decode cX8_keepPast 79 = .ok (.imul, 1) := by decide +kernel
theorem dX8_keepPast_80 : decode cX8_keepPast 80 = .ok (.iadd, 1) := by decide +kernel
theorem dX8_keepPast_81 : decode cX8_keepPast 81 = .ok (.invokevirtual 117, 3) := by decide +kernel
theorem dX8_keepPast_84 : decode cX8_keepPast 84 = .ok (.aload_n 0, 1) := by decide +kernel
theorem dX8_keepPast_85 : decode cX8_keepPast 85 = .ok (.dup, 1) := by decide +kernel
theorem dX8_keepPast_86 : decode cX8_keepPast 86 = .ok (.getfield 121, 3) := by decide +kernel
theorem dX8_keepPast_89 : decode cX8_keepPast 89 = .ok (.iconst 1, 1) := by decide +kernel
theorem dX8_keepPast_90 : decode cX8_keepPast 90 = .ok (.iadd, 1) := by decide +kernel
theorem dX8_keepPast_91 : decode cX8_keepPast 91 = .ok (.putfield 121, 3) := by decide +kernel
theorem dX8_keepPast_94 : decode cX8_keepPast 94 = .ok (.return_, 1) := by decide +kernel
theorem dX8_undo_0 : decode cX8_undo 0 = .ok (.aload_n 0, 1) := by decide +kernel
theorem dX8_undo_1 : decode cX8_undo 1 = .ok (.getfield 121, 3) := by decide +kernel
theorem dX8_undo_4 : decode cX8_undo 4 = .ok (.ifCond .ne 6, 3) := by decide +kernel
theorem dX8_undo_7 : decode cX8_undo 7 = .ok (.ldc 153, 2) := by decide +kernel
theorem dX8_undo_9 : decode cX8_undo 9 = .ok (.ireturn, 1) := by decide +kernel
theorem dX8_undo_10 : decode cX8_undo 10 = .ok (.aload_n 0, 1) := by decide +kernel
theorem dX8_undo_11 : decode cX8_undo 11 = .ok (.dup, 1) := by decide +kernel
theorem dX8_undo_12 : decode cX8_undo 12 = .ok (.getfield 121, 3) := by decide +kernel
theorem dX8_undo_15 : decode cX8_undo 15 = .ok (.iconst 1, 1) := by decide +kernel
theorem dX8_undo_16 : decode cX8_undo 16 = .ok (.isub, 1) := by decide +kernel
theorem dX8_undo_17 : decode cX8_undo 17 = .ok (.putfield 121, 3) := by decide +kernel
theorem dX8_undo_20 : decode cX8_undo 20 = .ok (.aload_n 0, 1) := by decide +kernel
theorem dX8_undo_21 : decode cX8_undo 21 = .ok (.sipush 134, 3) := by decide +kernel
theorem dX8_undo_24 : decode cX8_undo 24 = .ok (.sipush 134, 3) := by decide +kernel
theorem dX8_undo_27 : decode cX8_undo 27 = .ok (.aload_n 0, 1) := by decide +kernel
theorem dX8_undo_28 : decode cX8_undo 28 = .ok (.getfield 121, 3) := by decide +kernel
theorem dX8_undo_31 : decode cX8_undo 31 = .ok (.imul, 1) := by decide +kernel
theorem dX8_undo_32 : decode cX8_undo 32 = .ok (.iadd, 1) := by decide +kernel
theorem dX8_undo_33 : decode cX8_undo 33 = .ok (.iconst 0, 1) := by decide +kernel
theorem dX8_undo_34 : decode cX8_undo 34 = .ok (.invokevirtual 117, 3) := by decide +kernel
theorem dX8_undo_37 : decode cX8_undo 37 = .ok (.aload_n 0, 1) := by decide +kernel
theorem dX8_undo_38 : decode cX8_undo 38 = .ok (.getfield 121, 3) := by decide +kernel
theorem dX8_undo_41 : decode cX8_undo 41 = .ok (.ireturn, 1) := by decide +kernel
theorem dX8_turnOne_0 : decode cX8_turnOne 0 = .ok (.aload_n 0, 1) := by decide +kernel
theorem dX8_turnOne_1 : decode cX8_turnOne 1 = .ok (.iload_n 1, 1) := by decide +kernel
theorem dX8_turnOne_2 : decode cX8_turnOne 2 = .ok (.invokevirtual 154, 3) := by decide +kernel
theorem dX8_turnOne_5 : decode cX8_turnOne 5 = .ok (.ifCond .eq 12, 3) := by decide +kernel
theorem dX8_turnOne_8 : decode cX8_turnOne 8 = .ok (.aload_n 0, 1) := by decide +kernel
theorem dX8_turnOne_9 : decode cX8_turnOne 9 = .ok (.iload_n 2, 1) := by decide +kernel
theorem dX8_turnOne_10 : decode cX8_turnOne 10 = .ok (.i2l, 1) := by decide +kernel
theorem dX8_turnOne_11 : decode cX8_turnOne 11 = .ok (.invokevirtual 157, 3) := by decide +kernel
theorem dX8_turnOne_14 : decode cX8_turnOne 14 = .ok (.ifCond .ne 6, 3) := by decide +kernel
theorem dX8_turnOne_17 : decode cX8_turnOne 17 = .ok (.ldc 49, 2) := by decide +kernel
theorem dX8_turnOne_19 : decode cX8_turnOne 19 = .ok (.ireturn, 1) := by decide +kernel
theorem dX8_turnOne_20 : decode cX8_turnOne 20 = .ok (.aload_n 0, 1) := by decide +kernel
theorem dX8_turnOne_21 : decode cX8_turnOne 21 = .ok (.iconst 0, 1) := by decide +kernel
theorem dX8_turnOne_22 : decode cX8_turnOne 22 = .ok (.iload_n 1, 1) := by decide +kernel
theorem dX8_turnOne_23 : decode cX8_turnOne 23 = .ok (.iload_n 2, 1) := by decide +kernel
theorem dX8_turnOne_24 : decode cX8_turnOne 24 = .ok (.invokevirtual 137, 3) := by decide +kernel
theorem dX8_turnOne_27 : decode cX8_turnOne 27 = .ok (.iload_n 3, 1) := by decide +kernel
theorem dX8_turnOne_28 : decode cX8_turnOne 28 = .ok (.if_icmp .eq 6, 3) := by decide +kernel
theorem dX8_turnOne_31 : decode cX8_turnOne 31 = .ok (.ldc 153, 2) := by decide +kernel
theorem dX8_turnOne_33 : decode cX8_turnOne 33 = .ok (.ireturn, 1) := by decide +kernel
theorem dX8_turnOne_34 : decode cX8_turnOne 34 = .ok (.aload_n 0, 1) := by decide +kernel
theorem dX8_turnOne_35 : decode cX8_turnOne 35 = .ok (.invokevirtual 161, 3) := by decide +kernel
theorem dX8_turnOne_38 : decode cX8_turnOne 38 = .ok (.aload_n 0, 1) := by decide +kernel
theorem dX8_turnOne_39 : decode cX8_turnOne 39 = .ok (.iconst 0, 1) := by decide +kernel
theorem dX8_turnOne_40 : decode cX8_turnOne 40 = .ok (.iload_n 1, 1) := by decide +kernel
theorem dX8_turnOne_41 : decode cX8_turnOne 41 = .ok (.iload_n 2, 1) := by decide +kernel
theorem dX8_turnOne_42 : decode cX8_turnOne 42 = .ok (.invokevirtual 164, 3) := by decide +kernel
theorem dX8_turnOne_45 : decode cX8_turnOne 45 = .ok (.aload_n 0, 1) := by decide +kernel
theorem dX8_turnOne_46 : decode cX8_turnOne 46 = .ok (.iconst 0, 1) := by decide +kernel
theorem dX8_turnOne_47 : decode cX8_turnOne 47 = .ok (.iload_n 1, 1) := by decide +kernel
theorem dX8_turnOne_48 : decode cX8_turnOne 48 = .ok (.invokevirtual 168, 3) := by decide +kernel
theorem dX8_turnOne_51 : decode cX8_turnOne 51 = .ok (.ireturn, 1) := by decide +kernel
theorem dX8_add_0 : decode cX8_add 0 = .ok (.aload_n 0, 1) := by decide +kernel
theorem dX8_add_1 : decode cX8_add 1 = .ok (.iload_n 1, 1) := by decide +kernel
theorem dX8_add_2 : decode cX8_add 2 = .ok (.iload_n 2, 1) := by decide +kernel
theorem dX8_add_3 : decode cX8_add 3 = .ok (.iconst 0, 1) := by decide +kernel
theorem dX8_add_4 : decode cX8_add 4 = .ok (.invokevirtual 171, 3) := by decide +kernel
theorem dX8_add_7 : decode cX8_add 7 = .ok (.ireturn, 1) := by decide +kernel
theorem dX8_take_0 : decode cX8_take 0 = .ok (.aload_n 0, 1) := by decide +kernel
theorem dX8_take_1 : decode cX8_take 1 = .ok (.iload_n 1, 1) := by decide +kernel
theorem dX8_take_2 : decode cX8_take 2 = .ok (.iload_n 2, 1) := by decide +kernel
theorem dX8_take_3 : decode cX8_take 3 = .ok (.iconst 1, 1) := by decide +kernel
theorem dX8_take_4 : decode cX8_take 4 = .ok (.invokevirtual 171, 3) := by decide +kernel
theorem dX8_take_7 : decode cX8_take 7 = .ok (.ireturn, 1) := by decide +kernel
theorem dX8_flip_0 : decode cX8_flip 0 = .ok (.aload_n 0, 1) := by decide +kernel
theorem dX8_flip_1 : decode cX8_flip 1 = .ok (.iload_n 1, 1) := by decide +kernel
theorem dX8_flip_2 : decode cX8_flip 2 = .ok (.invokevirtual 154, 3) := by decide +kernel
theorem dX8_flip_5 : decode cX8_flip 5 = .ok (.ifCond .eq 26, 3) := by decide +kernel
theorem dX8_flip_8 : decode cX8_flip 8 = .ok (.aload_n 0, 1) := by decide +kernel
theorem dX8_flip_9 : decode cX8_flip 9 = .ok (.iload_n 2, 1) := by decide +kernel
theorem dX8_flip_10 : decode cX8_flip 10 = .ok (.i2l, 1) := by decide +kernel
theorem dX8_flip_11 : decode cX8_flip 11 = .ok (.invokevirtual 157, 3) := by decide +kernel
theorem dX8_flip_14 : decode cX8_flip 14 = .ok (.ifCond .eq 17, 3) := by decide +kernel
theorem dX8_flip_17 : decode cX8_flip 17 = .ok (.aload_n 0, 1) := by decide +kernel
theorem dX8_flip_18 : decode cX8_flip 18 = .ok (.iload_n 3, 1) := by decide +kernel
theorem dX8_flip_19 : decode cX8_flip 19 = .ok (.i2l, 1) := by decide +kernel
theorem dX8_flip_20 : decode cX8_flip 20 = .ok (.invokevirtual 157, 3) := by decide +kernel
theorem dX8_flip_23 : decode cX8_flip 23 = .ok (.ifCond .eq 8, 3) := by decide +kernel
theorem dX8_flip_26 : decode cX8_flip 26 = .ok (.iload_n 2, 1) := by decide +kernel
theorem dX8_flip_27 : decode cX8_flip 27 = .ok (.iload_n 3, 1) := by decide +kernel
theorem dX8_flip_28 : decode cX8_flip 28 = .ok (.if_icmp .le 6, 3) := by decide +kernel
theorem dX8_flip_31 : decode cX8_flip 31 = .ok (.ldc 49, 2) := by decide +kernel
theorem dX8_flip_33 : decode cX8_flip 33 = .ok (.ireturn, 1) := by decide +kernel
theorem dX8_flip_34 : decode cX8_flip 34 = .ok (.aload_n 0, 1) := by decide +kernel
theorem dX8_flip_35 : decode cX8_flip 35 = .ok (.invokevirtual 161, 3) := by decide +kernel
theorem dX8_flip_38 : decode cX8_flip 38 = .ok (.iload_n 2, 1) := by decide +kernel
theorem dX8_flip_39 : decode cX8_flip 39 = .ok (.istore 4, 2) := by decide +kernel
theorem dX8_flip_41 : decode cX8_flip 41 = .ok (.iload 4, 2) := by decide +kernel
theorem dX8_flip_43 : decode cX8_flip 43 = .ok (.iload_n 3, 1) := by decide +kernel
theorem dX8_flip_44 : decode cX8_flip 44 = .ok (.if_icmp .gt 17, 3) := by decide +kernel
theorem dX8_flip_47 : decode cX8_flip 47 = .ok (.aload_n 0, 1) := by decide +kernel
theorem dX8_flip_48 : decode cX8_flip 48 = .ok (.iconst 0, 1) := by decide +kernel
theorem dX8_flip_49 : decode cX8_flip 49 = .ok (.iload_n 1, 1) := by decide +kernel
theorem dX8_flip_50 : decode cX8_flip 50 = .ok (.iload 4, 2) := by decide +kernel
theorem dX8_flip_52 : decode cX8_flip 52 = .ok (.invokevirtual 164, 3) := by decide +kernel
theorem dX8_flip_55 : decode cX8_flip 55 = .ok (.iinc 4 1, 3) := by decide +kernel
theorem dX8_flip_58 : decode cX8_flip 58 = .ok (.goto (-17), 3) := by decide +kernel
theorem dX8_flip_61 : decode cX8_flip 61 = .ok (.aload_n 0, 1) := by decide +kernel
theorem dX8_flip_62 : decode cX8_flip 62 = .ok (.iconst 0, 1) := by decide +kernel
theorem dX8_flip_63 : decode cX8_flip 63 = .ok (.iload_n 1, 1) := by decide +kernel
theorem dX8_flip_64 : decode cX8_flip 64 = .ok (.invokevirtual 168, 3) := by decide +kernel
theorem dX8_flip_67 : decode cX8_flip 67 = .ok (.ireturn, 1) := by decide +kernel
theorem dX8_join_0 : decode cX8_join 0 = .ok (.iload_n 1, 1) := by decide +kernel
theorem dX8_join_1 : decode cX8_join 1 = .ok (.i2l, 1) := by decide +kernel
theorem dX8_join_2 : decode cX8_join 2 = .ok (.lconst 0, 1) := by decide +kernel
theorem dX8_join_3 : decode cX8_join 3 = .ok (.ldc2_w 175, 3) := by decide +kernel
theorem dX8_join_6 : decode cX8_join 6 = .ok (.invokestatic 39, 3) := by decide +kernel
theorem dX8_join_9 : decode cX8_join 9 = .ok (.ifCond .eq 28, 3) := by decide +kernel
theorem dX8_join_12 : decode cX8_join 12 = .ok (.aload_n 0, 1) := by decide +kernel
theorem dX8_join_13 : decode cX8_join 13 = .ok (.iload_n 2, 1) := by decide +kernel
theorem dX8_join_14 : decode cX8_join 14 = .ok (.invokevirtual 154, 3) := by decide +kernel
theorem dX8_join_17 : decode cX8_join 17 = .ok (.ifCond .eq 20, 3) := by decide +kernel
theorem dX8_join_20 : decode cX8_join 20 = .ok (.aload_n 0, 1) := by decide +kernel
theorem dX8_join_21 : decode cX8_join 21 = .ok (.iload_n 3, 1) := by decide +kernel
theorem dX8_join_22 : decode cX8_join 22 = .ok (.invokevirtual 154, 3) := by decide +kernel
theorem dX8_join_25 : decode cX8_join 25 = .ok (.ifCond .eq 12, 3) := by decide +kernel
theorem dX8_join_28 : decode cX8_join 28 = .ok (.aload_n 0, 1) := by decide +kernel
theorem dX8_join_29 : decode cX8_join 29 = .ok (.iload 4, 2) := by decide +kernel
theorem dX8_join_31 : decode cX8_join 31 = .ok (.invokevirtual 154, 3) := by decide +kernel
theorem dX8_join_34 : decode cX8_join 34 = .ok (.ifCond .ne 6, 3) := by decide +kernel
theorem dX8_join_37 : decode cX8_join 37 = .ok (.ldc 49, 2) := by decide +kernel
theorem dX8_join_39 : decode cX8_join 39 = .ok (.ireturn, 1) := by decide +kernel
theorem dX8_join_40 : decode cX8_join 40 = .ok (.aload_n 0, 1) := by decide +kernel
theorem dX8_join_41 : decode cX8_join 41 = .ok (.invokevirtual 161, 3) := by decide +kernel
theorem dX8_join_44 : decode cX8_join 44 = .ok (.iconst 0, 1) := by decide +kernel
theorem dX8_join_45 : decode cX8_join 45 = .ok (.istore 5, 2) := by decide +kernel
theorem dX8_join_47 : decode cX8_join 47 = .ok (.iload 5, 2) := by decide +kernel
theorem dX8_join_49 : decode cX8_join 49 = .ok (.bipush 32, 2) := by decide +kernel
theorem dX8_join_51 : decode cX8_join 51 = .ok (.if_icmp .ge 104, 3) := by decide +kernel
theorem dX8_join_54 : decode cX8_join 54 = .ok (.aload_n 0, 1) := by decide +kernel
theorem dX8_join_55 : decode cX8_join 55 = .ok (.getfield 7, 3) := by decide +kernel
theorem dX8_join_58 : decode cX8_join 58 = .ok (.bipush 6, 2) := by decide +kernel
theorem dX8_join_60 : decode cX8_join 60 = .ok (.bipush 32, 2) := by decide +kernel
theorem dX8_join_62 : decode cX8_join 62 = .ok (.iload_n 2, 1) := by decide +kernel
theorem dX8_join_63 : decode cX8_join 63 = .ok (.imul, 1) := by decide +kernel
theorem dX8_join_64 : decode cX8_join 64 = .ok (.iadd, 1) := by decide +kernel
theorem dX8_join_65 : decode cX8_join 65 = .ok (.iload 5, 2) := by decide +kernel
theorem dX8_join_67 : decode cX8_join 67 = .ok (.iadd, 1) := by decide +kernel
theorem dX8_join_68 : decode cX8_join 68 = .ok (.iaload, 1) := by decide +kernel
theorem dX8_join_69 : decode cX8_join 69 = .ok (.istore 6, 2) := by decide +kernel
theorem dX8_join_71 : decode cX8_join 71 = .ok (.aload_n 0, 1) := by decide +kernel
theorem dX8_join_72 : decode cX8_join 72 = .ok (.getfield 7, 3) := by decide +kernel
theorem dX8_join_75 : decode cX8_join 75 = .ok (.bipush 6, 2) := by decide +kernel
theorem dX8_join_77 : decode cX8_join 77 = .ok (.bipush 32, 2) := by decide +kernel
theorem dX8_join_79 : decode cX8_join 79 = .ok (.iload_n 3, 1) := by decide +kernel
theorem dX8_join_80 : decode cX8_join 80 = .ok (.imul, 1) := by decide +kernel
theorem dX8_join_81 : decode cX8_join 81 = .ok (.iadd, 1) := by decide +kernel
theorem dX8_join_82 : decode cX8_join 82 = .ok (.iload 5, 2) := by decide +kernel
theorem dX8_join_84 : decode cX8_join 84 = .ok (.iadd, 1) := by decide +kernel
theorem dX8_join_85 : decode cX8_join 85 = .ok (.iaload, 1) := by decide +kernel
theorem dX8_join_86 : decode cX8_join 86 = .ok (.istore 7, 2) := by decide +kernel
theorem dX8_join_88 : decode cX8_join 88 = .ok (.aload_n 0, 1) := by decide +kernel
theorem dX8_join_89 : decode cX8_join 89 = .ok (.getfield 7, 3) := by decide +kernel
theorem dX8_join_92 : decode cX8_join 92 = .ok (.bipush 6, 2) := by decide +kernel
theorem dX8_join_94 : decode cX8_join 94 = .ok (.bipush 32, 2) := by decide +kernel
theorem dX8_join_96 : decode cX8_join 96 = .ok (.iload 4, 2) := by decide +kernel
theorem dX8_join_98 : decode cX8_join 98 = .ok (.imul, 1) := by decide +kernel
theorem dX8_join_99 : decode cX8_join 99 = .ok (.iadd, 1) := by decide +kernel
theorem dX8_join_100 : decode cX8_join 100 = .ok (.iload 5, 2) := by decide +kernel
theorem dX8_join_102 : decode cX8_join 102 = .ok (.iadd, 1) := by decide +kernel
theorem dX8_join_103 : decode cX8_join 103 = .ok (.iload_n 1, 1) := by decide +kernel
theorem dX8_join_104 : decode cX8_join 104 = .ok (.ifCond .ne 11, 3) := by decide +kernel
theorem dX8_join_107 : decode cX8_join 107 = .ok (.iload 6, 2) := by decide +kernel
theorem dX8_join_109 : decode cX8_join 109 = .ok (.iload 7, 2) := by decide +kernel
theorem dX8_join_111 : decode cX8_join 111 = .ok (.iand, 1) := by decide +kernel
theorem dX8_join_112 : decode cX8_join 112 = .ok (.goto 36, 3) := by decide +kernel
theorem dX8_join_115 : decode cX8_join 115 = .ok (.iload_n 1, 1) := by decide +kernel
theorem dX8_join_116 : decode cX8_join 116 = .ok (.iconst 1, 1) := by decide +kernel
theorem dX8_join_117 : decode cX8_join 117 = .ok (.if_icmp .ne 11, 3) := by decide +kernel
theorem dX8_join_120 : decode cX8_join 120 = .ok (.iload 6, 2) := by decide +kernel
theorem dX8_join_122 : decode cX8_join 122 = .ok (.iload 7, 2) := by decide +kernel
theorem dX8_join_124 : decode cX8_join 124 = .ok (.ior, 1) := by decide +kernel
theorem dX8_join_125 : decode cX8_join 125 = .ok (.goto 23, 3) := by decide +kernel
theorem dX8_join_128 : decode cX8_join 128 = .ok (.iload_n 1, 1) := by decide +kernel
theorem dX8_join_129 : decode cX8_join 129 = .ok (.iconst 2, 1) := by decide +kernel
theorem dX8_join_130 : decode cX8_join 130 = .ok (.if_icmp .ne 11, 3) := by decide +kernel
theorem dX8_join_133 : decode cX8_join 133 = .ok (.iload 6, 2) := by decide +kernel
theorem dX8_join_135 : decode cX8_join 135 = .ok (.iload 7, 2) := by decide +kernel
theorem dX8_join_137 : decode cX8_join 137 = .ok (.ixor, 1) := by decide +kernel
theorem dX8_join_138 : decode cX8_join 138 = .ok (.goto 10, 3) := by decide +kernel
theorem dX8_join_141 : decode cX8_join 141 = .ok (.iload 6, 2) := by decide +kernel
theorem dX8_join_143 : decode cX8_join 143 = .ok (.iload 7, 2) := by decide +kernel
theorem dX8_join_145 : decode cX8_join 145 = .ok (.iconst (-1), 1) := by decide +kernel
theorem dX8_join_146 : decode cX8_join 146 = .ok (.ixor, 1) := by decide +kernel
theorem dX8_join_147 : decode cX8_join 147 = .ok (.iand, 1) := by decide +kernel
theorem dX8_join_148 : decode cX8_join 148 = .ok (.iastore, 1) := by decide +kernel
theorem dX8_join_149 : decode cX8_join 149 = .ok (.iinc 5 1, 3) := by decide +kernel
theorem dX8_join_152 : decode cX8_join 152 = .ok (.goto (-105), 3) := by decide +kernel
theorem dX8_join_155 : decode cX8_join 155 = .ok (.aload_n 0, 1) := by decide +kernel
theorem dX8_join_156 : decode cX8_join 156 = .ok (.iconst 0, 1) := by decide +kernel
theorem dX8_join_157 : decode cX8_join 157 = .ok (.iload 4, 2) := by decide +kernel
theorem dX8_join_159 : decode cX8_join 159 = .ok (.invokevirtual 168, 3) := by decide +kernel
theorem dX8_join_162 : decode cX8_join 162 = .ok (.ireturn, 1) := by decide +kernel
theorem dX8_shift_0 : decode cX8_shift 0 = .ok (.aload_n 0, 1) := by decide +kernel
theorem dX8_shift_1 : decode cX8_shift 1 = .ok (.iload_n 1, 1) := by decide +kernel
theorem dX8_shift_2 : decode cX8_shift 2 = .ok (.invokevirtual 154, 3) := by decide +kernel
theorem dX8_shift_5 : decode cX8_shift 5 = .ok (.ifCond .eq 17, 3) := by decide +kernel
theorem dX8_shift_8 : decode cX8_shift 8 = .ok (.iload_n 2, 1) := by decide +kernel
theorem dX8_shift_9 : decode cX8_shift 9 = .ok (.i2l, 1) := by decide +kernel
theorem dX8_shift_10 : decode cX8_shift 10 = .ok (.ldc2_w 177, 3) := by decide +kernel
theorem dX8_shift_13 : decode cX8_shift 13 = .ok (.ldc2_w 179, 3) := by decide +kernel
theorem dX8_shift_16 : decode cX8_shift 16 = .ok (.invokestatic 39, 3) := by decide +kernel
theorem dX8_shift_19 : decode cX8_shift 19 = .ok (.ifCond .ne 6, 3) := by decide +kernel
theorem dX8_shift_22 : decode cX8_shift 22 = .ok (.ldc 49, 2) := by decide +kernel
theorem dX8_shift_24 : decode cX8_shift 24 = .ok (.ireturn, 1) := by decide +kernel
theorem dX8_shift_25 : decode cX8_shift 25 = .ok (.aload_n 0, 1) := by decide +kernel
theorem dX8_shift_26 : decode cX8_shift 26 = .ok (.invokevirtual 161, 3) := by decide +kernel
theorem dX8_shift_29 : decode cX8_shift 29 = .ok (.aload_n 0, 1) := by decide +kernel
theorem dX8_shift_30 : decode cX8_shift 30 = .ok (.iconst 0, 1) := by decide +kernel
theorem dX8_shift_31 : decode cX8_shift 31 = .ok (.sipush 3618, 3) := by decide +kernel
theorem dX8_shift_34 : decode cX8_shift 34 = .ok (.invokevirtual 117, 3) := by decide +kernel
theorem dX8_shift_37 : decode cX8_shift 37 = .ok (.iconst 0, 1) := by decide +kernel
theorem dX8_shift_38 : decode cX8_shift 38 = .ok (.istore_n 3, 1) := by decide +kernel
theorem dX8_shift_39 : decode cX8_shift 39 = .ok (.iload_n 3, 1) := by decide +kernel
theorem dX8_shift_40 : decode cX8_shift 40 = .ok (.bipush 32, 2) := by decide +kernel
theorem dX8_shift_42 : decode cX8_shift 42 = .ok (.if_icmp .ge 24, 3) := by decide +kernel
theorem dX8_shift_45 : decode cX8_shift 45 = .ok (.aload_n 0, 1) := by decide +kernel
theorem dX8_shift_46 : decode cX8_shift 46 = .ok (.getfield 7, 3) := by decide +kernel
theorem dX8_shift_49 : decode cX8_shift 49 = .ok (.bipush 6, 2) := by decide +kernel
theorem dX8_shift_51 : decode cX8_shift 51 = .ok (.bipush 32, 2) := by decide +kernel
theorem dX8_shift_53 : decode cX8_shift 53 = .ok (.iload_n 1, 1) := by decide +kernel
theorem dX8_shift_54 : decode cX8_shift 54 = .ok (.imul, 1) := by decide +kernel
theorem dX8_shift_55 : decode cX8_shift 55 = .ok (.iadd, 1) := by decide +kernel
theorem dX8_shift_56 : decode cX8_shift 56 = .ok (.iload_n 3, 1) := by decide +kernel
theorem dX8_shift_57 : decode cX8_shift 57 = .ok (.iadd, 1) := by decide +kernel
theorem dX8_shift_58 : decode cX8_shift 58 = .ok (.iconst 0, 1) := by decide +kernel
theorem dX8_shift_59 : decode cX8_shift 59 = .ok (.iastore, 1) := by decide +kernel
theorem dX8_shift_60 : decode cX8_shift 60 = .ok (.iinc 3 1, 3) := by decide +kernel
theorem dX8_shift_63 : decode cX8_shift 63 = .ok (.goto (-24), 3) := by decide +kernel
theorem dX8_shift_66 : decode cX8_shift 66 = .ok (.iconst 0, 1) := by decide +kernel
theorem dX8_shift_67 : decode cX8_shift 67 = .ok (.istore_n 3, 1) := by decide +kernel
theorem dX8_shift_68 : decode cX8_shift 68 = .ok (.iload_n 3, 1) := by decide +kernel
theorem dX8_shift_69 : decode cX8_shift 69 = .ok (.aload_n 0, 1) := by decide +kernel
theorem dX8_shift_70 : decode cX8_shift 70 = .ok (.invokevirtual 127, 3) := by decide +kernel
theorem dX8_shift_73 : decode cX8_shift 73 = .ok (.if_icmp .ge 41, 3) := by decide +kernel
theorem dX8_shift_76 : decode cX8_shift 76 = .ok (.aload_n 0, 1) := by decide +kernel
theorem dX8_shift_77 : decode cX8_shift 77 = .ok (.sipush 3618, 3) := by decide +kernel
theorem dX8_shift_80 : decode cX8_shift 80 = .ok (.iload_n 1, 1) := by decide +kernel
theorem dX8_shift_81 : decode cX8_shift 81 = .ok (.iload_n 3, 1) := by decide +kernel
theorem dX8_shift_82 : decode cX8_shift 82 = .ok (.invokevirtual 137, 3) := by decide +kernel
theorem dX8_shift_85 : decode cX8_shift 85 = .ok (.ifCond .eq 23, 3) := by decide +kernel
theorem dX8_shift_88 : decode cX8_shift 88 = .ok (.aload_n 0, 1) := by decide +kernel
theorem dX8_shift_89 : decode cX8_shift 89 = .ok (.iload_n 3, 1) := by decide +kernel
theorem dX8_shift_90 : decode cX8_shift 90 = .ok (.iload_n 2, 1) := by decide +kernel
theorem dX8_shift_91 : decode cX8_shift 91 = .ok (.iadd, 1) := by decide +kernel
theorem dX8_shift_92 : decode cX8_shift 92 = .ok (.i2l, 1) := by decide +kernel
theorem dX8_shift_93 : decode cX8_shift 93 = .ok (.invokevirtual 157, 3) := by decide +kernel
theorem dX8_shift_96 : decode cX8_shift 96 = .ok (.ifCond .eq 12, 3) := by decide +kernel
theorem dX8_shift_99 : decode cX8_shift 99 = .ok (.aload_n 0, 1) := by decide +kernel
theorem dX8_shift_100 : decode cX8_shift 100 = .ok (.iconst 0, 1) := by decide +kernel
theorem dX8_shift_101 : decode cX8_shift 101 = .ok (.iload_n 1, 1) := by decide +kernel
theorem dX8_shift_102 : decode cX8_shift 102 = .ok (.iload_n 3, 1) := by decide +kernel
theorem dX8_shift_103 : decode cX8_shift 103 = .ok (.iload_n 2, 1) := by decide +kernel
theorem dX8_shift_104 : decode cX8_shift 104 = .ok (.iadd, 1) := by decide +kernel
theorem dX8_shift_105 : decode cX8_shift 105 = .ok (.invokevirtual 164, 3) := by decide +kernel
theorem dX8_shift_108 : decode cX8_shift 108 = .ok (.iinc 3 1, 3) := by decide +kernel
theorem dX8_shift_111 : decode cX8_shift 111 = .ok (.goto (-43), 3) := by decide +kernel
theorem dX8_shift_114 : decode cX8_shift 114 = .ok (.aload_n 0, 1) := by decide +kernel
theorem dX8_shift_115 : decode cX8_shift 115 = .ok (.iconst 0, 1) := by decide +kernel
theorem dX8_shift_116 : decode cX8_shift 116 = .ok (.iload_n 1, 1) := by decide +kernel
theorem dX8_shift_117 : decode cX8_shift 117 = .ok (.invokevirtual 168, 3) := by decide +kernel
theorem dX8_shift_120 : decode cX8_shift 120 = .ok (.ireturn, 1) := by decide +kernel
theorem dX8_gather_0 : decode cX8_gather 0 = .ok (.aload_n 0, 1) := by decide +kernel
theorem dX8_gather_1 : decode cX8_gather 1 = .ok (.iload_n 1, 1) := by decide +kernel
theorem dX8_gather_2 : decode cX8_gather 2 = .ok (.invokevirtual 154, 3) := by decide +kernel
theorem dX8_gather_5 : decode cX8_gather 5 = .ok (.ifCond .eq 23, 3) := by decide +kernel
theorem dX8_gather_8 : decode cX8_gather 8 = .ok (.iload_n 2, 1) := by decide +kernel
theorem dX8_gather_9 : decode cX8_gather 9 = .ok (.invokestatic 43, 3) := by decide +kernel
theorem dX8_gather_12 : decode cX8_gather 12 = .ok (.ifCond .eq 16, 3) := by decide +kernel
theorem dX8_gather_15 : decode cX8_gather 15 = .ok (.iload 4, 2) := by decide +kernel
theorem dX8_gather_17 : decode cX8_gather 17 = .ok (.i2l, 1) := by decide +kernel
theorem dX8_gather_18 : decode cX8_gather 18 = .ok (.lconst 1, 1) := by decide +kernel
theorem dX8_gather_19 : decode cX8_gather 19 = .ok (.ldc2_w 181, 3) := by decide +kernel
theorem dX8_gather_22 : decode cX8_gather 22 = .ok (.invokestatic 39, 3) := by decide +kernel
theorem dX8_gather_25 : decode cX8_gather 25 = .ok (.ifCond .ne 6, 3) := by decide +kernel
theorem dX8_gather_28 : decode cX8_gather 28 = .ok (.ldc 49, 2) := by decide +kernel
theorem dX8_gather_30 : decode cX8_gather 30 = .ok (.ireturn, 1) := by decide +kernel
theorem dX8_gather_31 : decode cX8_gather 31 = .ok (.aload_n 0, 1) := by decide +kernel
theorem dX8_gather_32 : decode cX8_gather 32 = .ok (.getfield 20, 3) := by decide +kernel
theorem dX8_gather_35 : decode cX8_gather 35 = .ok (.iload_n 2, 1) := by decide +kernel
theorem dX8_gather_36 : decode cX8_gather 36 = .ok (.iaload, 1) := by decide +kernel
theorem dX8_gather_37 : decode cX8_gather 37 = .ok (.ifCond .ge 9, 3) := by decide +kernel
theorem dX8_gather_40 : decode cX8_gather 40 = .ok (.aload_n 0, 1) := by decide +kernel
theorem dX8_gather_41 : decode cX8_gather 41 = .ok (.iconst 1, 1) := by decide +kernel
theorem dX8_gather_42 : decode cX8_gather 42 = .ok (.invokevirtual 50, 3) := by decide +kernel
theorem dX8_gather_45 : decode cX8_gather 45 = .ok (.ireturn, 1) := by decide +kernel
theorem dX8_gather_46 : decode cX8_gather 46 = .ok (.aload_n 0, 1) := by decide +kernel
theorem dX8_gather_47 : decode cX8_gather 47 = .ok (.iload_n 2, 1) := by decide +kernel
theorem dX8_gather_48 : decode cX8_gather 48 = .ok (.iload_n 3, 1) := by decide +kernel
theorem dX8_gather_49 : decode cX8_gather 49 = .ok (.iload 4, 2) := by decide +kernel
theorem dX8_gather_51 : decode cX8_gather 51 = .ok (.invokevirtual 61, 3) := by decide +kernel
theorem dX8_gather_54 : decode cX8_gather 54 = .ok (.ifCond .ne 9, 3) := by decide +kernel
theorem dX8_gather_57 : decode cX8_gather 57 = .ok (.aload_n 0, 1) := by decide +kernel
theorem dX8_gather_58 : decode cX8_gather 58 = .ok (.iconst 2, 1) := by decide +kernel
theorem dX8_gather_59 : decode cX8_gather 59 = .ok (.invokevirtual 50, 3) := by decide +kernel
theorem dX8_gather_62 : decode cX8_gather 62 = .ok (.ireturn, 1) := by decide +kernel
theorem dX8_gather_63 : decode cX8_gather 63 = .ok (.bipush 40, 2) := by decide +kernel
theorem dX8_gather_65 : decode cX8_gather 65 = .ok (.iload_n 2, 1) := by decide +kernel
theorem dX8_gather_66 : decode cX8_gather 66 = .ok (.imul, 1) := by decide +kernel
theorem dX8_gather_67 : decode cX8_gather 67 = .ok (.iload_n 3, 1) := by decide +kernel
theorem dX8_gather_68 : decode cX8_gather 68 = .ok (.iadd, 1) := by decide +kernel
theorem dX8_gather_69 : decode cX8_gather 69 = .ok (.istore 5, 2) := by decide +kernel
theorem dX8_gather_71 : decode cX8_gather 71 = .ok (.iload 5, 2) := by decide +kernel
theorem dX8_gather_73 : decode cX8_gather 73 = .ok (.bipush 40, 2) := by decide +kernel
theorem dX8_gather_75 : decode cX8_gather 75 = .ok (.iload_n 2, 1) := by decide +kernel
theorem dX8_gather_76 : decode cX8_gather 76 = .ok (.imul, 1) := by decide +kernel
theorem dX8_gather_77 : decode cX8_gather 77 = .ok (.iload_n 3, 1) := by decide +kernel
theorem dX8_gather_78 : decode cX8_gather 78 = .ok (.iadd, 1) := by decide +kernel
theorem dX8_gather_79 : decode cX8_gather 79 = .ok (.iload 4, 2) := by decide +kernel
theorem dX8_gather_81 : decode cX8_gather 81 = .ok (.iadd, 1) := by decide +kernel
theorem dX8_gather_82 : decode cX8_gather 82 = .ok (.if_icmp .ge 30, 3) := by decide +kernel
theorem dX8_gather_85 : decode cX8_gather 85 = .ok (.aload_n 0, 1) := by decide +kernel
theorem dX8_gather_86 : decode cX8_gather 86 = .ok (.aload_n 0, 1) := by decide +kernel
theorem dX8_gather_87 : decode cX8_gather 87 = .ok (.getfield 23, 3) := by decide +kernel
theorem dX8_gather_90 : decode cX8_gather 90 = .ok (.iload 5, 2) := by decide +kernel
theorem dX8_gather_92 : decode cX8_gather 92 = .ok (.iaload, 1) := by decide +kernel
theorem dX8_gather_93 : decode cX8_gather 93 = .ok (.i2l, 1) := by decide +kernel
theorem dX8_gather_94 : decode cX8_gather 94 = .ok (.invokevirtual 157, 3) := by decide +kernel
theorem dX8_gather_97 : decode cX8_gather 97 = .ok (.ifCond .ne 9, 3) := by decide +kernel
theorem dX8_gather_100 : decode cX8_gather 100 = .ok (.aload_n 0, 1) := by decide +kernel
theorem dX8_gather_101 : decode cX8_gather 101 = .ok (.iconst 2, 1) := by decide +kernel
theorem dX8_gather_102 : decode cX8_gather 102 = .ok (.invokevirtual 50, 3) := by decide +kernel
theorem dX8_gather_105 : decode cX8_gather 105 = .ok (.ireturn, 1) := by decide +kernel
theorem dX8_gather_106 : decode cX8_gather 106 = .ok (.iinc 5 1, 3) := by decide +kernel
theorem dX8_gather_109 : decode cX8_gather 109 = .ok (.goto (-38), 3) := by decide +kernel
theorem dX8_gather_112 : decode cX8_gather 112 = .ok (.aload_n 0, 1) := by decide +kernel
theorem dX8_gather_113 : decode cX8_gather 113 = .ok (.invokevirtual 161, 3) := by decide +kernel
theorem dX8_gather_116 : decode cX8_gather 116 = .ok (.bipush 40, 2) := by decide +kernel
theorem dX8_gather_118 : decode cX8_gather 118 = .ok (.iload_n 2, 1) := by decide +kernel
theorem dX8_gather_119 : decode cX8_gather 119 = .ok (.imul, 1) := by decide +kernel
theorem dX8_gather_120 : decode cX8_gather 120 = .ok (.iload_n 3, 1) := by decide +kernel
theorem dX8_gather_121 : decode cX8_gather 121 = .ok (.iadd, 1) := by decide +kernel
theorem dX8_gather_122 : decode cX8_gather 122 = .ok (.istore 5, 2) := by decide +kernel
theorem dX8_gather_124 : decode cX8_gather 124 = .ok (.iload 5, 2) := by decide +kernel
theorem dX8_gather_126 : decode cX8_gather 126 = .ok (.bipush 40, 2) := by decide +kernel
theorem dX8_gather_128 : decode cX8_gather 128 = .ok (.iload_n 2, 1) := by decide +kernel
theorem dX8_gather_129 : decode cX8_gather 129 = .ok (.imul, 1) := by decide +kernel
theorem dX8_gather_130 : decode cX8_gather 130 = .ok (.iload_n 3, 1) := by decide +kernel
theorem dX8_gather_131 : decode cX8_gather 131 = .ok (.iadd, 1) := by decide +kernel
theorem dX8_gather_132 : decode cX8_gather 132 = .ok (.iload 4, 2) := by decide +kernel
theorem dX8_gather_134 : decode cX8_gather 134 = .ok (.iadd, 1) := by decide +kernel
theorem dX8_gather_135 : decode cX8_gather 135 = .ok (.if_icmp .ge 38, 3) := by decide +kernel
theorem dX8_gather_138 : decode cX8_gather 138 = .ok (.aload_n 0, 1) := by decide +kernel
theorem dX8_gather_139 : decode cX8_gather 139 = .ok (.iconst 0, 1) := by decide +kernel
theorem dX8_gather_140 : decode cX8_gather 140 = .ok (.iload_n 1, 1) := by decide +kernel
theorem dX8_gather_141 : decode cX8_gather 141 = .ok (.aload_n 0, 1) := by decide +kernel
theorem dX8_gather_142 : decode cX8_gather 142 = .ok (.getfield 23, 3) := by decide +kernel
theorem dX8_gather_145 : decode cX8_gather 145 = .ok (.iload 5, 2) := by decide +kernel
theorem dX8_gather_147 : decode cX8_gather 147 = .ok (.iaload, 1) := by decide +kernel
theorem dX8_gather_148 : decode cX8_gather 148 = .ok (.invokevirtual 137, 3) := by decide +kernel
theorem dX8_gather_151 : decode cX8_gather 151 = .ok (.ifCond .ne 16, 3) := by decide +kernel
theorem dX8_gather_154 : decode cX8_gather 154 = .ok (.aload_n 0, 1) := by decide +kernel
theorem dX8_gather_155 : decode cX8_gather 155 = .ok (.iconst 0, 1) := by decide +kernel
theorem dX8_gather_156 : decode cX8_gather 156 = .ok (.iload_n 1, 1) := by decide +kernel
theorem dX8_gather_157 : decode cX8_gather 157 = .ok (.aload_n 0, 1) := by decide +kernel
theorem dX8_gather_158 : decode cX8_gather 158 = .ok (.getfield 23, 3) := by decide +kernel
theorem dX8_gather_161 : decode cX8_gather 161 = .ok (.iload 5, 2) := by decide +kernel
theorem dX8_gather_163 : decode cX8_gather 163 = .ok (.iaload, 1) := by decide +kernel
theorem dX8_gather_164 : decode cX8_gather 164 = .ok (.invokevirtual 164, 3) := by decide +kernel
theorem dX8_gather_167 : decode cX8_gather 167 = .ok (.iinc 5 1, 3) := by decide +kernel
theorem dX8_gather_170 : decode cX8_gather 170 = .ok (.goto (-46), 3) := by decide +kernel
theorem dX8_gather_173 : decode cX8_gather 173 = .ok (.aload_n 0, 1) := by decide +kernel
theorem dX8_gather_174 : decode cX8_gather 174 = .ok (.aload_n 0, 1) := by decide +kernel
theorem dX8_gather_175 : decode cX8_gather 175 = .ok (.iconst 0, 1) := by decide +kernel
theorem dX8_gather_176 : decode cX8_gather 176 = .ok (.iload_n 1, 1) := by decide +kernel
theorem dX8_gather_177 : decode cX8_gather 177 = .ok (.invokevirtual 168, 3) := by decide +kernel
theorem dX8_gather_180 : decode cX8_gather 180 = .ok (.invokevirtual 54, 3) := by decide +kernel
theorem dX8_gather_183 : decode cX8_gather 183 = .ok (.ireturn, 1) := by decide +kernel
theorem dX8_contains_0 : decode cX8_contains 0 = .ok (.aload_n 0, 1) := by decide +kernel
theorem dX8_contains_1 : decode cX8_contains 1 = .ok (.iload_n 1, 1) := by decide +kernel
theorem dX8_contains_2 : decode cX8_contains 2 = .ok (.invokevirtual 154, 3) := by decide +kernel
theorem dX8_contains_5 : decode cX8_contains 5 = .ok (.ifCond .eq 12, 3) := by decide +kernel
theorem dX8_contains_8 : decode cX8_contains 8 = .ok (.aload_n 0, 1) := by decide +kernel
theorem dX8_contains_9 : decode cX8_contains 9 = .ok (.iload_n 2, 1) := by decide +kernel
theorem dX8_contains_10 : decode cX8_contains 10 = .ok (.i2l, 1) := by decide +kernel
theorem dX8_contains_11 : decode cX8_contains 11 = .ok (.invokevirtual 157, 3) := by decide +kernel
theorem dX8_contains_14 : decode cX8_contains 14 = .ok (.ifCond .ne 8, 3) := by decide +kernel
theorem dX8_contains_17 : decode cX8_contains 17 = .ok (.ldc 49, 2) := by decide +kernel
theorem dX8_contains_19 : decode cX8_contains 19 = .ok (.goto 18, 3) := by decide +kernel
theorem dX8_contains_22 : decode cX8_contains 22 = .ok (.aload_n 0, 1) := by decide +kernel
theorem dX8_contains_23 : decode cX8_contains 23 = .ok (.iconst 0, 1) := by decide +kernel
theorem dX8_contains_24 : decode cX8_contains 24 = .ok (.iload_n 1, 1) := by decide +kernel
theorem dX8_contains_25 : decode cX8_contains 25 = .ok (.iload_n 2, 1) := by decide +kernel
theorem dX8_contains_26 : decode cX8_contains 26 = .ok (.invokevirtual 137, 3) := by decide +kernel
theorem dX8_contains_29 : decode cX8_contains 29 = .ok (.ifCond .eq 7, 3) := by decide +kernel
theorem dX8_contains_32 : decode cX8_contains 32 = .ok (.iconst 1, 1) := by decide +kernel
theorem dX8_contains_33 : decode cX8_contains 33 = .ok (.goto 4, 3) := by decide +kernel
theorem dX8_contains_36 : decode cX8_contains 36 = .ok (.iconst 0, 1) := by decide +kernel
theorem dX8_contains_37 : decode cX8_contains 37 = .ok (.ireturn, 1) := by decide +kernel
theorem dX8_keys_0 : decode cX8_keys 0 = .ok (.aload_n 0, 1) := by decide +kernel
theorem dX8_keys_1 : decode cX8_keys 1 = .ok (.iload_n 1, 1) := by decide +kernel
theorem dX8_keys_2 : decode cX8_keys 2 = .ok (.invokevirtual 154, 3) := by decide +kernel
theorem dX8_keys_5 : decode cX8_keys 5 = .ok (.ifCond .eq 12, 3) := by decide +kernel
theorem dX8_keys_8 : decode cX8_keys 8 = .ok (.aload_n 0, 1) := by decide +kernel
theorem dX8_keys_9 : decode cX8_keys 9 = .ok (.iconst 0, 1) := by decide +kernel
theorem dX8_keys_10 : decode cX8_keys 10 = .ok (.iload_n 1, 1) := by decide +kernel
theorem dX8_keys_11 : decode cX8_keys 11 = .ok (.invokevirtual 168, 3) := by decide +kernel
theorem dX8_keys_14 : decode cX8_keys 14 = .ok (.goto 5, 3) := by decide +kernel
theorem dX8_keys_17 : decode cX8_keys 17 = .ok (.ldc 49, 2) := by decide +kernel
theorem dX8_keys_19 : decode cX8_keys 19 = .ok (.ireturn, 1) := by decide +kernel
