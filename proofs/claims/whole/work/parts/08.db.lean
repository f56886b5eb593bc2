theorem dX2_init_0 : decode cX2_init 0 = .ok (.aload_n 0, 1) := by decide +kernel
theorem dX2_init_1 : decode cX2_init 1 = .ok (.invokespecial 3, 3) := by decide +kernel
theorem dX2_init_4 : decode cX2_init 4 = .ok (.aload_n 0, 1) := by decide +kernel
theorem dX2_init_5 : decode cX2_init 5 = .ok (.iload_n 1, 1) := by decide +kernel
theorem dX2_init_6 : decode cX2_init 6 = .ok (.putfield 9, 3) := by decide +kernel
theorem dX2_init_9 : decode cX2_init 9 = .ok (.aload_n 0, 1) := by decide +kernel
theorem dX2_init_10 : decode cX2_init 10 = .ok (.iload_n 2, 1) := by decide +kernel
theorem dX2_init_11 : decode cX2_init 11 = .ok (.putfield 15, 3) := by decide +kernel
theorem dX2_init_14 : decode cX2_init 14 = .ok (.aload_n 0, 1) := by decide +kernel
theorem dX2_init_15 : decode cX2_init 15 = .ok (.iconst 1, 1) := by decide +kernel
theorem dX2_init_16 : decode cX2_init 16 = .ok (.iload_n 3, 1) := by decide +kernel
theorem dX2_init_17 : decode cX2_init 17 = .ok (.ishl, 1) := by decide +kernel
theorem dX2_init_18 : decode cX2_init 18 = .ok (.putfield 18, 3) := by decide +kernel
theorem dX2_init_21 : decode cX2_init 21 = .ok (.aload_n 0, 1) := by decide +kernel
theorem dX2_init_22 : decode cX2_init 22 = .ok (.iload_n 3, 1) := by decide +kernel
theorem dX2_init_23 : decode cX2_init 23 = .ok (.invokestatic 21, 3) := by decide +kernel
theorem dX2_init_26 : decode cX2_init 26 = .ok (.putfield 27, 3) := by decide +kernel
theorem dX2_init_29 : decode cX2_init 29 = .ok (.aload_n 0, 1) := by decide +kernel
theorem dX2_init_30 : decode cX2_init 30 = .ok (.iload_n 3, 1) := by decide +kernel
theorem dX2_init_31 : decode cX2_init 31 = .ok (.invokestatic 30, 3) := by decide +kernel
theorem dX2_init_34 : decode cX2_init 34 = .ok (.putfield 33, 3) := by decide +kernel
theorem dX2_init_37 : decode cX2_init 37 = .ok (.aload_n 0, 1) := by decide +kernel
theorem dX2_init_38 : decode cX2_init 38 = .ok (.iload_n 3, 1) := by decide +kernel
theorem dX2_init_39 : decode cX2_init 39 = .ok (.invokestatic 36, 3) := by decide +kernel
theorem dX2_init_42 : decode cX2_init 42 = .ok (.newarray .int, 2) := by decide +kernel
theorem dX2_init_44 : decode cX2_init 44 = .ok (.putfield 39, 3) := by decide +kernel
theorem dX2_init_47 : decode cX2_init 47 = .ok (.return_, 1) := by decide +kernel
theorem dX2_wordsFor_0 : decode cX2_wordsFor 0 = .ok (.iload_n 0, 1) := by decide +kernel
theorem dX2_wordsFor_1 : decode cX2_wordsFor 1 = .ok (.iconst 5, 1) := by decide +kernel
theorem dX2_wordsFor_2 : decode cX2_wordsFor 2 = .ok (.if_icmp .gt 7, 3) := by decide +kernel
theorem dX2_wordsFor_5 : decode cX2_wordsFor 5 = .ok (.iconst 1, 1) := by decide +kernel
theorem dX2_wordsFor_6 : decode cX2_wordsFor 6 = .ok (.goto 8, 3) := by decide +kernel
theorem dX2_wordsFor_9 : decode cX2_wordsFor 9 = .ok (.iconst 1, 1) := by decide +kernel
theorem dX2_wordsFor_10 : decode cX2_wordsFor 10 = .ok (.iload_n 0, 1) := by decide +kernel
theorem dX2_wordsFor_11 : decode cX2_wordsFor 11 = .ok (.iconst 5, 1) := by decide +kernel
theorem dX2_wordsFor_12 : decode cX2_wordsFor 12 = .ok (.isub, 1) := by decide +kernel
theorem dX2_wordsFor_13 : decode cX2_wordsFor 13 = .ok (.ishl, 1) := by decide +kernel
theorem dX2_wordsFor_14 : decode cX2_wordsFor 14 = .ok (.ireturn, 1) := by decide +kernel
theorem dX2_spanIn_0 : decode cX2_spanIn 0 = .ok (.iload_n 1, 1) := by decide +kernel
theorem dX2_spanIn_1 : decode cX2_spanIn 1 = .ok (.iload_n 0, 1) := by decide +kernel
theorem dX2_spanIn_2 : decode cX2_spanIn 2 = .ok (.bipush 32, 2) := by decide +kernel
theorem dX2_spanIn_4 : decode cX2_spanIn 4 = .ok (.imul, 1) := by decide +kernel
theorem dX2_spanIn_5 : decode cX2_spanIn 5 = .ok (.isub, 1) := by decide +kernel
theorem dX2_spanIn_6 : decode cX2_spanIn 6 = .ok (.iconst 0, 1) := by decide +kernel
theorem dX2_spanIn_7 : decode cX2_spanIn 7 = .ok (.invokestatic 43, 3) := by decide +kernel
theorem dX2_spanIn_10 : decode cX2_spanIn 10 = .ok (.istore_n 3, 1) := by decide +kernel
theorem dX2_spanIn_11 : decode cX2_spanIn 11 = .ok (.iload_n 2, 1) := by decide +kernel
theorem dX2_spanIn_12 : decode cX2_spanIn 12 = .ok (.iload_n 0, 1) := by decide +kernel
theorem dX2_spanIn_13 : decode cX2_spanIn 13 = .ok (.bipush 32, 2) := by decide +kernel
theorem dX2_spanIn_15 : decode cX2_spanIn 15 = .ok (.imul, 1) := by decide +kernel
theorem dX2_spanIn_16 : decode cX2_spanIn 16 = .ok (.isub, 1) := by decide +kernel
theorem dX2_spanIn_17 : decode cX2_spanIn 17 = .ok (.bipush 31, 2) := by decide +kernel
theorem dX2_spanIn_19 : decode cX2_spanIn 19 = .ok (.invokestatic 49, 3) := by decide +kernel
theorem dX2_spanIn_22 : decode cX2_spanIn 22 = .ok (.istore 4, 2) := by decide +kernel
theorem dX2_spanIn_24 : decode cX2_spanIn 24 = .ok (.iload_n 3, 1) := by decide +kernel
theorem dX2_spanIn_25 : decode cX2_spanIn 25 = .ok (.iload 4, 2) := by decide +kernel
theorem dX2_spanIn_27 : decode cX2_spanIn 27 = .ok (.if_icmp .le 7, 3) := by decide +kernel
theorem dX2_spanIn_30 : decode cX2_spanIn 30 = .ok (.iconst 0, 1) := by decide +kernel
theorem dX2_spanIn_31 : decode cX2_spanIn 31 = .ok (.goto 14, 3) := by decide +kernel
theorem dX2_spanIn_34 : decode cX2_spanIn 34 = .ok (.iconst (-1), 1) := by decide +kernel
theorem dX2_spanIn_35 : decode cX2_spanIn 35 = .ok (.iload_n 3, 1) := by decide +kernel
theorem dX2_spanIn_36 : decode cX2_spanIn 36 = .ok (.ishl, 1) := by decide +kernel
theorem dX2_spanIn_37 : decode cX2_spanIn 37 = .ok (.iconst (-1), 1) := by decide +kernel
theorem dX2_spanIn_38 : decode cX2_spanIn 38 = .ok (.bipush 31, 2) := by decide +kernel
theorem dX2_spanIn_40 : decode cX2_spanIn 40 = .ok (.iload 4, 2) := by decide +kernel
theorem dX2_spanIn_42 : decode cX2_spanIn 42 = .ok (.isub, 1) := by decide +kernel
theorem dX2_spanIn_43 : decode cX2_spanIn 43 = .ok (.iushr, 1) := by decide +kernel
theorem dX2_spanIn_44 : decode cX2_spanIn 44 = .ok (.iand, 1) := by decide +kernel
theorem dX2_spanIn_45 : decode cX2_spanIn 45 = .ok (.ireturn, 1) := by decide +kernel
theorem dX2_isKey_0 : decode cX2_isKey 0 = .ok (.iload_n 1, 1) := by decide +kernel
theorem dX2_isKey_1 : decode cX2_isKey 1 = .ok (.iconst 0, 1) := by decide +kernel
theorem dX2_isKey_2 : decode cX2_isKey 2 = .ok (.aload_n 0, 1) := by decide +kernel
theorem dX2_isKey_3 : decode cX2_isKey 3 = .ok (.getfield 18, 3) := by decide +kernel
theorem dX2_isKey_6 : decode cX2_isKey 6 = .ok (.iconst 1, 1) := by decide +kernel
theorem dX2_isKey_7 : decode cX2_isKey 7 = .ok (.isub, 1) := by decide +kernel
theorem dX2_isKey_8 : decode cX2_isKey 8 = .ok (.invokestatic 52, 3) := by decide +kernel
theorem dX2_isKey_11 : decode cX2_isKey 11 = .ok (.ireturn, 1) := by decide +kernel
theorem dX2_holds_0 : decode cX2_holds 0 = .ok (.aload_n 0, 1) := by decide +kernel
theorem dX2_holds_1 : decode cX2_holds 1 = .ok (.getfield 39, 3) := by decide +kernel
theorem dX2_holds_4 : decode cX2_holds 4 = .ok (.iload_n 1, 1) := by decide +kernel
theorem dX2_holds_5 : decode cX2_holds 5 = .ok (.bipush 32, 2) := by decide +kernel
theorem dX2_holds_7 : decode cX2_holds 7 = .ok (.idiv, 1) := by decide +kernel
theorem dX2_holds_8 : decode cX2_holds 8 = .ok (.iaload, 1) := by decide +kernel
theorem dX2_holds_9 : decode cX2_holds 9 = .ok (.iload_n 1, 1) := by decide +kernel
theorem dX2_holds_10 : decode cX2_holds 10 = .ok (.bipush 32, 2) := by decide +kernel
theorem dX2_holds_12 : decode cX2_holds 12 = .ok (.irem, 1) := by decide +kernel
theorem dX2_holds_13 : decode cX2_holds 13 = .ok (.iushr, 1) := by decide +kernel
theorem dX2_holds_14 : decode cX2_holds 14 = .ok (.iconst 1, 1) := by decide +kernel
theorem dX2_holds_15 : decode cX2_holds 15 = .ok (.iand, 1) := by decide +kernel
theorem dX2_holds_16 : decode cX2_holds 16 = .ok (.iconst 1, 1) := by decide +kernel
theorem dX2_holds_17 : decode cX2_holds 17 = .ok (.if_icmp .ne 7, 3) := by decide +kernel
theorem dX2_holds_20 : decode cX2_holds 20 = .ok (.iconst 1, 1) := by decide +kernel
theorem dX2_holds_21 : decode cX2_holds 21 = .ok (.goto 4, 3) := by decide +kernel
theorem dX2_holds_24 : decode cX2_holds 24 = .ok (.iconst 0, 1) := by decide +kernel
theorem dX2_holds_25 : decode cX2_holds 25 = .ok (.ireturn, 1) := by decide +kernel
theorem dX2_put_0 : decode cX2_put 0 = .ok (.aload_n 0, 1) := by decide +kernel
theorem dX2_put_1 : decode cX2_put 1 = .ok (.getfield 39, 3) := by decide +kernel
theorem dX2_put_4 : decode cX2_put 4 = .ok (.iload_n 1, 1) := by decide +kernel
theorem dX2_put_5 : decode cX2_put 5 = .ok (.bipush 32, 2) := by decide +kernel
theorem dX2_put_7 : decode cX2_put 7 = .ok (.idiv, 1) := by decide +kernel
theorem dX2_put_8 : decode cX2_put 8 = .ok (.dup2, 1) := by decide +kernel
theorem dX2_put_9 : decode cX2_put 9 = .ok (.iaload, 1) := by decide +kernel
theorem dX2_put_10 : decode cX2_put 10 = .ok (.iconst 1, 1) := by decide +kernel
theorem dX2_put_11 : decode cX2_put 11 = .ok (.iload_n 1, 1) := by decide +kernel
theorem dX2_put_12 : decode cX2_put 12 = .ok (.bipush 32, 2) := by decide +kernel
theorem dX2_put_14 : decode cX2_put 14 = .ok (.irem, 1) := by decide +kernel
theorem dX2_put_15 : decode cX2_put 15 = .ok (.ishl, 1) := by decide +kernel
theorem dX2_put_16 : decode cX2_put 16 = .ok (.ior, 1) := by decide +kernel
theorem dX2_put_17 : decode cX2_put 17 = .ok (.iastore, 1) := by decide +kernel
theorem dX2_put_18 : decode cX2_put 18 = .ok (.return_, 1) := by decide +kernel
theorem dX2_turn_0 : decode cX2_turn 0 = .ok (.iload_n 1, 1) := by decide +kernel
theorem dX2_turn_1 : decode cX2_turn 1 = .ok (.bipush 32, 2) := by decide +kernel
theorem dX2_turn_3 : decode cX2_turn 3 = .ok (.idiv, 1) := by decide +kernel
theorem dX2_turn_4 : decode cX2_turn 4 = .ok (.istore_n 3, 1) := by decide +kernel
theorem dX2_turn_5 : decode cX2_turn 5 = .ok (.iload_n 3, 1) := by decide +kernel
theorem dX2_turn_6 : decode cX2_turn 6 = .ok (.iload_n 2, 1) := by decide +kernel
theorem dX2_turn_7 : decode cX2_turn 7 = .ok (.bipush 32, 2) := by decide +kernel
theorem dX2_turn_9 : decode cX2_turn 9 = .ok (.idiv, 1) := by decide +kernel
theorem dX2_turn_10 : decode cX2_turn 10 = .ok (.if_icmp .gt 24, 3) := by decide +kernel
theorem dX2_turn_13 : decode cX2_turn 13 = .ok (.aload_n 0, 1) := by decide +kernel
theorem dX2_turn_14 : decode cX2_turn 14 = .ok (.getfield 39, 3) := by decide +kernel
theorem dX2_turn_17 : decode cX2_turn 17 = .ok (.iload_n 3, 1) := by decide +kernel
theorem dX2_turn_18 : decode cX2_turn 18 = .ok (.dup2, 1) := by decide +kernel
theorem dX2_turn_19 : decode cX2_turn 19 = .ok (.iaload, 1) := by decide +kernel
theorem dX2_turn_20 : decode cX2_turn 20 = .ok (.iload_n 3, 1) := by decide +kernel
theorem dX2_turn_21 : decode cX2_turn 21 = .ok (.iload_n 1, 1) := by decide +kernel
theorem dX2_turn_22 : decode cX2_turn 22 = .ok (.iload_n 2, 1) := by decide +kernel
theorem dX2_turn_23 : decode cX2_turn 23 = .ok (.invokestatic 56, 3) := by decide +kernel
theorem dX2_turn_26 : decode cX2_turn 26 = .ok (.ixor, 1) := by decide +kernel
theorem dX2_turn_27 : decode cX2_turn 27 = .ok (.iastore, 1) := by decide +kernel
theorem dX2_turn_28 : decode cX2_turn 28 = .ok (.iinc 3 1, 3) := by decide +kernel
theorem dX2_turn_31 : decode cX2_turn 31 = .ok (.goto (-26), 3) := by decide +kernel
theorem dX2_turn_34 : decode cX2_turn 34 = .ok (.return_, 1) := by decide +kernel
theorem dX2_become_0 : decode cX2_become 0 = .ok (.aload_n 1, 1) := by decide +kernel
theorem dX2_become_1 : decode cX2_become 1 = .ok (.iconst 0, 1) := by decide +kernel
theorem dX2_become_2 : decode cX2_become 2 = .ok (.aload_n 0, 1) := by decide +kernel
theorem dX2_become_3 : decode cX2_become 3 = .ok (.getfield 39, 3) := by decide +kernel
theorem dX2_become_6 : decode cX2_become 6 = .ok (.iconst 0, 1) := by decide +kernel
theorem dX2_become_7 : decode cX2_become 7 = .ok (.aload_n 0, 1) := by decide +kernel
theorem dX2_become_8 : decode cX2_become 8 = .ok (.getfield 39, 3) := by decide +kernel
theorem dX2_become_11 : decode cX2_become 11 = .ok (.arraylength, 1) := by decide +kernel
theorem dX2_become_12 : decode cX2_become 12 = .ok (.invokestatic 60, 3) := by decide +kernel
theorem dX2_become_15 : decode cX2_become 15 = .ok (.return_, 1) := by decide +kernel
theorem dX2_becomeJoined_0 : decode cX2_becomeJoined 0 = .ok (.iconst 0, 1) := by decide +kernel
theorem dX2_becomeJoined_1 : decode cX2_becomeJoined 1 = .ok (.istore 4, 2) := by decide +kernel
theorem dX2_becomeJoined_3 : decode cX2_becomeJoined 3 = .ok (.iload 4, 2) := by decide +kernel
theorem dX2_becomeJoined_5 : decode cX2_becomeJoined 5 = .ok (.aload_n 0, 1) := by decide +kernel
theorem dX2_becomeJoined_6 : decode cX2_becomeJoined 6 = .ok (.getfield 39, 3) := by decide +kernel
theorem dX2_becomeJoined_9 : decode cX2_becomeJoined 9 = .ok (.arraylength, 1) := by decide +kernel
theorem dX2_becomeJoined_10 : decode cX2_becomeJoined 10 = .ok (.if_icmp .ge 34, 3) := by decide +kernel
theorem dX2_becomeJoined_13 : decode cX2_becomeJoined 13 = .ok (.aload_n 0, 1) := by decide +kernel
theorem dX2_becomeJoined_14 : decode cX2_becomeJoined 14 = .ok (.getfield 39, 3) := by decide +kernel
theorem dX2_becomeJoined_17 : decode cX2_becomeJoined 17 = .ok (.iload 4, 2) := by decide +kernel
theorem dX2_becomeJoined_19 : decode cX2_becomeJoined 19 = .ok (.iload_n 1, 1) := by decide +kernel
theorem dX2_becomeJoined_20 : decode cX2_becomeJoined 20 = .ok (.aload_n 2, 1) := by decide +kernel
theorem dX2_becomeJoined_21 : decode cX2_becomeJoined 21 = .ok (.getfield 39, 3) := by decide +kernel
theorem dX2_becomeJoined_24 : decode cX2_becomeJoined 24 = .ok (.iload 4, 2) := by decide +kernel
theorem dX2_becomeJoined_26 : decode cX2_becomeJoined 26 = .ok (.iaload, 1) := by decide +kernel
theorem dX2_becomeJoined_27 : decode cX2_becomeJoined 27 = .ok (.aload_n 3, 1) := by decide +kernel
theorem dX2_becomeJoined_28 : decode cX2_becomeJoined 28 = .ok (.getfield 39, 3) := by decide +kernel
theorem dX2_becomeJoined_31 : decode cX2_becomeJoined 31 = .ok (.iload 4, 2) := by decide +kernel
theorem dX2_becomeJoined_33 : decode cX2_becomeJoined 33 = .ok (.iaload, 1) := by decide +kernel
theorem dX2_becomeJoined_34 : decode cX2_becomeJoined 34 = .ok (.invokestatic 66, 3) := by decide +kernel
theorem dX2_becomeJoined_37 : decode cX2_becomeJoined 37 = .ok (.iastore, 1) := by decide +kernel
theorem dX2_becomeJoined_38 : decode cX2_becomeJoined 38 = .ok (.iinc 4 1, 3) := by decide +kernel
theorem dX2_becomeJoined_41 : decode cX2_becomeJoined 41 = .ok (.goto (-38), 3) := by decide +kernel
theorem dX2_becomeJoined_44 : decode cX2_becomeJoined 44 = .ok (.return_, 1) := by decide +kernel
theorem dX2_joined_0 : decode cX2_joined 0 = .ok (.iload_n 0, 1) := by decide +kernel
theorem dX2_joined_1 : decode cX2_joined 1 = .ok (.tableswitch 39 0 2 #[27, 31, 35], 27) := by decide +kernel
theorem dX2_joined_28 : decode cX2_joined 28 = .ok (.iload_n 1, 1) := by decide +kernel
theorem dX2_joined_29 : decode cX2_joined 29 = .ok (.iload_n 2, 1) := by decide +kernel
theorem dX2_joined_30 : decode cX2_joined 30 = .ok (.iand, 1) := by decide +kernel
theorem dX2_joined_31 : decode cX2_joined 31 = .ok (.ireturn, 1) := by decide +kernel
theorem dX2_joined_32 : decode cX2_joined 32 = .ok (.iload_n 1, 1) := by decide +kernel
theorem dX2_joined_33 : decode cX2_joined 33 = .ok (.iload_n 2, 1) := by decide +kernel
theorem dX2_joined_34 : decode cX2_joined 34 = .ok (.ior, 1) := by decide +kernel
theorem dX2_joined_35 : decode cX2_joined 35 = .ok (.ireturn, 1) := by decide +kernel
theorem dX2_joined_36 : decode cX2_joined 36 = .ok (.iload_n 1, 1) := by decide +kernel
theorem dX2_joined_37 : decode cX2_joined 37 = .ok (.iload_n 2, 1) := by decide +kernel
theorem dX2_joined_38 : decode cX2_joined 38 = .ok (.ixor, 1) := by decide +kernel
theorem dX2_joined_39 : decode cX2_joined 39 = .ok (.ireturn, 1) := by decide +kernel
theorem dX2_joined_40 : decode cX2_joined 40 = .ok (.iload_n 1, 1) := by decide +kernel
theorem dX2_joined_41 : decode cX2_joined 41 = .ok (.iload_n 2, 1) := by decide +kernel
theorem dX2_joined_42 : decode cX2_joined 42 = .ok (.iconst (-1), 1) := by decide +kernel
theorem dX2_joined_43 : decode cX2_joined 43 = .ok (.ixor, 1) := by decide +kernel
theorem dX2_joined_44 : decode cX2_joined 44 = .ok (.iand, 1) := by decide +kernel
theorem dX2_joined_45 : decode cX2_joined 45 = .ok (.ireturn, 1) := by decide +kernel
theorem dX2_moveBy_0 : decode cX2_moveBy 0 = .ok (.aload_n 0, 1) := by decide +kernel
theorem dX2_moveBy_1 : decode cX2_moveBy 1 = .ok (.getfield 39, 3) := by decide +kernel
theorem dX2_moveBy_4 : decode cX2_moveBy 4 = .ok (.invokevirtual 69, 3) := by decide +kernel
theorem dX2_moveBy_7 : decode cX2_moveBy 7 = .ok (.checkcast 70, 3) := by decide +kernel
theorem dX2_moveBy_10 : decode cX2_moveBy 10 = .ok (.astore_n 2, 1) := by decide +kernel
theorem dX2_moveBy_11 : decode cX2_moveBy 11 = .ok (.iconst 0, 1) := by decide +kernel
theorem dX2_moveBy_12 : decode cX2_moveBy 12 = .ok (.istore_n 3, 1) := by decide +kernel
theorem dX2_moveBy_13 : decode cX2_moveBy 13 = .ok (.iload_n 3, 1) := by decide +kernel
theorem dX2_moveBy_14 : decode cX2_moveBy 14 = .ok (.aload_n 0, 1) := by decide +kernel
theorem dX2_moveBy_15 : decode cX2_moveBy 15 = .ok (.getfield 39, 3) := by decide +kernel
theorem dX2_moveBy_18 : decode cX2_moveBy 18 = .ok (.arraylength, 1) := by decide +kernel
theorem dX2_moveBy_19 : decode cX2_moveBy 19 = .ok (.if_icmp .ge 37, 3) := by decide +kernel
theorem dX2_moveBy_22 : decode cX2_moveBy 22 = .ok (.aload_n 0, 1) := by decide +kernel
theorem dX2_moveBy_23 : decode cX2_moveBy 23 = .ok (.getfield 39, 3) := by decide +kernel
theorem dX2_moveBy_26 : decode cX2_moveBy 26 = .ok (.iload_n 3, 1) := by decide +kernel
theorem dX2_moveBy_27 : decode cX2_moveBy 27 = .ok (.aload_n 2, 1) := by decide +kernel
theorem dX2_moveBy_28 : decode cX2_moveBy 28 = .ok (.iload_n 3, 1) := by decide +kernel
theorem dX2_moveBy_29 : decode cX2_moveBy 29 = .ok (.bipush 32, 2) := by decide +kernel
theorem dX2_moveBy_31 : decode cX2_moveBy 31 = .ok (.imul, 1) := by decide +kernel
theorem dX2_moveBy_32 : decode cX2_moveBy 32 = .ok (.iload_n 1, 1) := by decide +kernel
theorem dX2_moveBy_33 : decode cX2_moveBy 33 = .ok (.isub, 1) := by decide +kernel
theorem dX2_moveBy_34 : decode cX2_moveBy 34 = .ok (.invokestatic 74, 3) := by decide +kernel
theorem dX2_moveBy_37 : decode cX2_moveBy 37 = .ok (.iload_n 3, 1) := by decide +kernel
theorem dX2_moveBy_38 : decode cX2_moveBy 38 = .ok (.iconst 0, 1) := by decide +kernel
theorem dX2_moveBy_39 : decode cX2_moveBy 39 = .ok (.aload_n 0, 1) := by decide +kernel
theorem dX2_moveBy_40 : decode cX2_moveBy 40 = .ok (.getfield 18, 3) := by decide +kernel
theorem dX2_moveBy_43 : decode cX2_moveBy 43 = .ok (.iconst 1, 1) := by decide +kernel
theorem dX2_moveBy_44 : decode cX2_moveBy 44 = .ok (.isub, 1) := by decide +kernel
theorem dX2_moveBy_45 : decode cX2_moveBy 45 = .ok (.invokestatic 56, 3) := by decide +kernel
theorem dX2_moveBy_48 : decode cX2_moveBy 48 = .ok (.iand, 1) := by decide +kernel
theorem dX2_moveBy_49 : decode cX2_moveBy 49 = .ok (.iastore, 1) := by decide +kernel
theorem dX2_moveBy_50 : decode cX2_moveBy 50 = .ok (.iinc 3 1, 3) := by decide +kernel
theorem dX2_moveBy_53 : decode cX2_moveBy 53 = .ok (.goto (-40), 3) := by decide +kernel
theorem dX2_moveBy_56 : decode cX2_moveBy 56 = .ok (.return_, 1) := by decide +kernel
theorem dX2_cutOut_0 : decode cX2_cutOut 0 = .ok (.iload_n 1, 1) := by decide +kernel
theorem dX2_cutOut_1 : decode cX2_cutOut 1 = .ok (.iconst 5, 1) := by decide +kernel
theorem dX2_cutOut_2 : decode cX2_cutOut 2 = .ok (.ishr, 1) := by decide +kernel
theorem dX2_cutOut_3 : decode cX2_cutOut 3 = .ok (.istore_n 2, 1) := by decide +kernel
theorem dX2_cutOut_4 : decode cX2_cutOut 4 = .ok (.iload_n 1, 1) := by decide +kernel
theorem dX2_cutOut_5 : decode cX2_cutOut 5 = .ok (.bipush 31, 2) := by decide +kernel
theorem dX2_cutOut_7 : decode cX2_cutOut 7 = .ok (.iand, 1) := by decide +kernel
theorem dX2_cutOut_8 : decode cX2_cutOut 8 = .ok (.istore_n 3, 1) := by decide +kernel
theorem dX2_cutOut_9 : decode cX2_cutOut 9 = .ok (.aload_n 0, 1) := by decide +kernel
theorem dX2_cutOut_10 : decode cX2_cutOut 10 = .ok (.iload_n 2, 1) := by decide +kernel
theorem dX2_cutOut_11 : decode cX2_cutOut 11 = .ok (.invokestatic 78, 3) := by decide +kernel
theorem dX2_cutOut_14 : decode cX2_cutOut 14 = .ok (.iload_n 3, 1) := by decide +kernel
theorem dX2_cutOut_15 : decode cX2_cutOut 15 = .ok (.iushr, 1) := by decide +kernel
theorem dX2_cutOut_16 : decode cX2_cutOut 16 = .ok (.istore 4, 2) := by decide +kernel
theorem dX2_cutOut_18 : decode cX2_cutOut 18 = .ok (.iload_n 3, 1) := by decide +kernel
theorem dX2_cutOut_19 : decode cX2_cutOut 19 = .ok (.ifCond .ne 8, 3) := by decide +kernel
theorem dX2_cutOut_22 : decode cX2_cutOut 22 = .ok (.iload 4, 2) := by decide +kernel
theorem dX2_cutOut_24 : decode cX2_cutOut 24 = .ok (.goto 18, 3) := by decide +kernel
theorem dX2_cutOut_27 : decode cX2_cutOut 27 = .ok (.iload 4, 2) := by decide +kernel
theorem dX2_cutOut_29 : decode cX2_cutOut 29 = .ok (.aload_n 0, 1) := by decide +kernel
theorem dX2_cutOut_30 : decode cX2_cutOut 30 = .ok (.iload_n 2, 1) := by decide +kernel
theorem dX2_cutOut_31 : decode cX2_cutOut 31 = .ok (.iconst 1, 1) := by decide +kernel
theorem dX2_cutOut_32 : decode cX2_cutOut 32 = .ok (.iadd, 1) := by decide +kernel
theorem dX2_cutOut_33 : decode cX2_cutOut 33 = .ok (.invokestatic 78, 3) := by decide +kernel
theorem dX2_cutOut_36 : decode cX2_cutOut 36 = .ok (.bipush 32, 2) := by decide +kernel
theorem dX2_cutOut_38 : decode cX2_cutOut 38 = .ok (.iload_n 3, 1) := by decide +kernel
theorem dX2_cutOut_39 : decode cX2_cutOut 39 = .ok (.isub, 1) := by decide +kernel
theorem dX2_cutOut_40 : decode cX2_cutOut 40 = .ok (.ishl, 1) := by decide +kernel
theorem dX2_cutOut_41 : decode cX2_cutOut 41 = .ok (.ior, 1) := by decide +kernel
theorem dX2_cutOut_42 : decode cX2_cutOut 42 = .ok (.ireturn, 1) := by decide +kernel
theorem dX2_wordOf_0 : decode cX2_wordOf 0 = .ok (.iload_n 1, 1) := by decide +kernel
theorem dX2_wordOf_1 : decode cX2_wordOf 1 = .ok (.iconst 0, 1) := by decide +kernel
theorem dX2_wordOf_2 : decode cX2_wordOf 2 = .ok (.aload_n 0, 1) := by decide +kernel
theorem dX2_wordOf_3 : decode cX2_wordOf 3 = .ok (.arraylength, 1) := by decide +kernel
theorem dX2_wordOf_4 : decode cX2_wordOf 4 = .ok (.iconst 1, 1) := by decide +kernel
theorem dX2_wordOf_5 : decode cX2_wordOf 5 = .ok (.isub, 1) := by decide +kernel
theorem dX2_wordOf_6 : decode cX2_wordOf 6 = .ok (.invokestatic 52, 3) := by decide +kernel
theorem dX2_wordOf_9 : decode cX2_wordOf 9 = .ok (.ifCond .eq 9, 3) := by decide +kernel
theorem dX2_wordOf_12 : decode cX2_wordOf 12 = .ok (.aload_n 0, 1) := by decide +kernel
theorem dX2_wordOf_13 : decode cX2_wordOf 13 = .ok (.iload_n 1, 1) := by decide +kernel
theorem dX2_wordOf_14 : decode cX2_wordOf 14 = .ok (.iaload, 1) := by decide +kernel
theorem dX2_wordOf_15 : decode cX2_wordOf 15 = .ok (.goto 4, 3) := by decide +kernel
theorem dX2_wordOf_18 : decode cX2_wordOf 18 = .ok (.iconst 0, 1) := by decide +kernel
theorem dX2_wordOf_19 : decode cX2_wordOf 19 = .ok (.ireturn, 1) := by decide +kernel
theorem dX2_size_0 : decode cX2_size 0 = .ok (.aload_n 0, 1) := by decide +kernel
theorem dX2_size_1 : decode cX2_size 1 = .ok (.iconst 0, 1) := by decide +kernel
theorem dX2_size_2 : decode cX2_size 2 = .ok (.aload_n 0, 1) := by decide +kernel
theorem dX2_size_3 : decode cX2_size 3 = .ok (.getfield 18, 3) := by decide +kernel
theorem dX2_size_6 : decode cX2_size 6 = .ok (.iconst 1, 1) := by decide +kernel
theorem dX2_size_7 : decode cX2_size 7 = .ok (.isub, 1) := by decide +kernel
theorem dX2_size_8 : decode cX2_size 8 = .ok (.invokevirtual 81, 3) := by decide +kernel
theorem dX2_size_11 : decode cX2_size 11 = .ok (.ireturn, 1) := by decide +kernel
theorem dX2_sizeWithin_0 : decode cX2_sizeWithin 0 = .ok (.iconst 0, 1) := by decide +kernel
theorem dX2_sizeWithin_1 : decode cX2_sizeWithin 1 = .ok (.istore_n 3, 1) := by decide +kernel
theorem dX2_sizeWithin_2 : decode cX2_sizeWithin 2 = .ok (.iconst 0, 1) := by decide +kernel
theorem dX2_sizeWithin_3 : decode cX2_sizeWithin 3 = .ok (.istore 4, 2) := by decide +kernel
theorem dX2_sizeWithin_5 : decode cX2_sizeWithin 5 = .ok (.iload 4, 2) := by decide +kernel
theorem dX2_sizeWithin_7 : decode cX2_sizeWithin 7 = .ok (.aload_n 0, 1) := by decide +kernel
theorem dX2_sizeWithin_8 : decode cX2_sizeWithin 8 = .ok (.getfield 39, 3) := by decide +kernel
theorem dX2_sizeWithin_11 : decode cX2_sizeWithin 11 = .ok (.arraylength, 1) := by decide +kernel
theorem dX2_sizeWithin_12 : decode cX2_sizeWithin 12 = .ok (.if_icmp .ge 30, 3) := by decide +kernel
theorem dX2_sizeWithin_15 : decode cX2_sizeWithin 15 = .ok (.iload_n 3, 1) := by decide +kernel
theorem dX2_sizeWithin_16 : decode cX2_sizeWithin 16 = .ok (.aload_n 0, 1) := by decide +kernel
theorem dX2_sizeWithin_17 : decode cX2_sizeWithin 17 = .ok (.getfield 39, 3) := by decide +kernel
theorem dX2_sizeWithin_20 : decode cX2_sizeWithin 20 = .ok (.iload 4, 2) := by decide +kernel
theorem dX2_sizeWithin_22 : decode cX2_sizeWithin 22 = .ok (.iaload, 1) := by decide +kernel
theorem dX2_sizeWithin_23 : decode cX2_sizeWithin 23 = .ok (.iload 4, 2) := by decide +kernel
theorem dX2_sizeWithin_25 : decode cX2_sizeWithin 25 = .ok (.iload_n 1, 1) := by decide +kernel
theorem dX2_sizeWithin_26 : decode cX2_sizeWithin 26 = .ok (.iload_n 2, 1) := by decide +kernel
theorem dX2_sizeWithin_27 : decode cX2_sizeWithin 27 = .ok (.invokestatic 56, 3) := by decide +kernel
theorem dX2_sizeWithin_30 : decode cX2_sizeWithin 30 = .ok (.iand, 1) := by decide +kernel
theorem dX2_sizeWithin_31 : decode cX2_sizeWithin 31 = .ok (.invokestatic 84, 3) := by decide +kernel
theorem dX2_sizeWithin_34 : decode cX2_sizeWithin 34 = .ok (.iadd, 1) := by decide +kernel
theorem dX2_sizeWithin_35 : decode cX2_sizeWithin 35 = .ok (.istore_n 3, 1) := by decide +kernel
theorem dX2_sizeWithin_36 : decode cX2_sizeWithin 36 = .ok (.iinc 4 1, 3) := by decide +kernel
theorem dX2_sizeWithin_39 : decode cX2_sizeWithin 39 = .ok (.goto (-34), 3) := by decide +kernel
theorem dX2_sizeWithin_42 : decode cX2_sizeWithin 42 = .ok (.iload_n 3, 1) := by decide +kernel
theorem dX2_sizeWithin_43 : decode cX2_sizeWithin 43 = .ok (.ireturn, 1) := by decide +kernel
theorem dX2_total_0 : decode cX2_total 0 = .ok (.iconst 0, 1) := by decide +kernel
theorem dX2_total_1 : decode cX2_total 1 = .ok (.istore_n 1, 1) := by decide +kernel
theorem dX2_total_2 : decode cX2_total 2 = .ok (.iconst 0, 1) := by decide +kernel
theorem dX2_total_3 : decode cX2_total 3 = .ok (.istore_n 2, 1) := by decide +kernel
theorem dX2_total_4 : decode cX2_total 4 = .ok (.iload_n 2, 1) := by decide +kernel
theorem dX2_total_5 : decode cX2_total 5 = .ok (.aload_n 0, 1) := by decide +kernel
theorem dX2_total_6 : decode cX2_total 6 = .ok (.getfield 18, 3) := by decide +kernel
theorem dX2_total_9 : decode cX2_total 9 = .ok (.if_icmp .ge 25, 3) := by decide +kernel
theorem dX2_total_12 : decode cX2_total 12 = .ok (.iload_n 1, 1) := by decide +kernel
theorem dX2_total_13 : decode cX2_total 13 = .ok (.aload_n 0, 1) := by decide +kernel
theorem dX2_total_14 : decode cX2_total 14 = .ok (.iload_n 2, 1) := by decide +kernel
theorem dX2_total_15 : decode cX2_total 15 = .ok (.invokevirtual 89, 3) := by decide +kernel
theorem dX2_total_18 : decode cX2_total 18 = .ok (.ifCond .eq 7, 3) := by decide +kernel
theorem dX2_total_21 : decode cX2_total 21 = .ok (.iload_n 2, 1) := by decide +kernel
theorem dX2_total_22 : decode cX2_total 22 = .ok (.goto 4, 3) := by decide +kernel
theorem dX2_total_25 : decode cX2_total 25 = .ok (.iconst 0, 1) := by decide +kernel
theorem dX2_total_26 : decode cX2_total 26 = .ok (.iadd, 1) := by decide +kernel
theorem dX2_total_27 : decode cX2_total 27 = .ok (.istore_n 1, 1) := by decide +kernel
theorem dX2_total_28 : decode cX2_total 28 = .ok (.iinc 2 1, 3) := by decide +kernel
theorem dX2_total_31 : decode cX2_total 31 = .ok (.goto (-27), 3) := by decide +kernel
theorem dX2_total_34 : decode cX2_total 34 = .ok (.iload_n 1, 1) := by decide +kernel
theorem dX2_total_35 : decode cX2_total 35 = .ok (.ireturn, 1) := by decide +kernel
theorem dX2_from_0 : decode cX2_from 0 = .ok (.iload_n 1, 1) := by decide +kernel
theorem dX2_from_1 : decode cX2_from 1 = .ok (.bipush 32, 2) := by decide +kernel
theorem dX2_from_3 : decode cX2_from 3 = .ok (.idiv, 1) := by decide +kernel
theorem dX2_from_4 : decode cX2_from 4 = .ok (.istore_n 2, 1) := by decide +kernel
theorem dX2_from_5 : decode cX2_from 5 = .ok (.iload_n 2, 1) := by decide +kernel
theorem dX2_from_6 : decode cX2_from 6 = .ok (.aload_n 0, 1) := by decide +kernel
theorem dX2_from_7 : decode cX2_from 7 = .ok (.getfield 39, 3) := by decide +kernel
theorem dX2_from_10 : decode cX2_from 10 = .ok (.arraylength, 1) := by decide +kernel
theorem dX2_from_11 : decode cX2_from 11 = .ok (.if_icmp .ge 42, 3) := by decide +kernel
theorem dX2_from_14 : decode cX2_from 14 = .ok (.aload_n 0, 1) := by decide +kernel
theorem dX2_from_15 : decode cX2_from 15 = .ok (.getfield 39, 3) := by decide +kernel
theorem dX2_from_18 : decode cX2_from 18 = .ok (.iload_n 2, 1) := by decide +kernel
theorem dX2_from_19 : decode cX2_from 19 = .ok (.iaload, 1) := by decide +kernel
theorem dX2_from_20 : decode cX2_from 20 = .ok (.iload_n 2, 1) := by decide +kernel
theorem dX2_from_21 : decode cX2_from 21 = .ok (.iload_n 1, 1) := by decide +kernel
theorem dX2_from_22 : decode cX2_from 22 = .ok (.aload_n 0, 1) := by decide +kernel
theorem dX2_from_23 : decode cX2_from 23 = .ok (.getfield 18, 3) := by decide +kernel
theorem dX2_from_26 : decode cX2_from 26 = .ok (.iconst 1, 1) := by decide +kernel
theorem dX2_from_27 : decode cX2_from 27 = .ok (.isub, 1) := by decide +kernel
theorem dX2_from_28 : decode cX2_from 28 = .ok (.invokestatic 56, 3) := by decide +kernel
theorem dX2_from_31 : decode cX2_from 31 = .ok (.iand, 1) := by decide +kernel
theorem dX2_from_32 : decode cX2_from 32 = .ok (.istore_n 3, 1) := by decide +kernel
theorem dX2_from_33 : decode cX2_from 33 = .ok (.iload_n 3, 1) := by decide +kernel
theorem dX2_from_34 : decode cX2_from 34 = .ok (.ifCond .eq 13, 3) := by decide +kernel
theorem dX2_from_37 : decode cX2_from 37 = .ok (.iload_n 2, 1) := by decide +kernel
theorem dX2_from_38 : decode cX2_from 38 = .ok (.bipush 32, 2) := by decide +kernel
theorem dX2_from_40 : decode cX2_from 40 = .ok (.imul, 1) := by decide +kernel
theorem dX2_from_41 : decode cX2_from 41 = .ok (.iload_n 3, 1) := by decide +kernel
theorem dX2_from_42 : decode cX2_from 42 = .ok (.invokestatic 93, 3) := by decide +kernel
theorem dX2_from_45 : decode cX2_from 45 = .ok (.iadd, 1) := by decide +kernel
theorem dX2_from_46 : decode cX2_from 46 = .ok (.ireturn, 1) := by decide +kernel
theorem dX2_from_47 : decode cX2_from 47 = .ok (.iinc 2 1, 3) := by decide +kernel
theorem dX2_from_50 : decode cX2_from 50 = .ok (.goto (-45), 3) := by decide +kernel
theorem dX2_from_53 : decode cX2_from 53 = .ok (.ldc 96, 2) := by decide +kernel
theorem dX2_from_55 : decode cX2_from 55 = .ok (.ireturn, 1) := by decide +kernel
theorem dX2_upTo_0 : decode cX2_upTo 0 = .ok (.iload_n 1, 1) := by decide +kernel
theorem dX2_upTo_1 : decode cX2_upTo 1 = .ok (.iconst 5, 1) := by decide +kernel
theorem dX2_upTo_2 : decode cX2_upTo 2 = .ok (.ishr, 1) := by decide +kernel
theorem dX2_upTo_3 : decode cX2_upTo 3 = .ok (.aload_n 0, 1) := by decide +kernel
theorem dX2_upTo_4 : decode cX2_upTo 4 = .ok (.getfield 39, 3) := by decide +kernel
theorem dX2_upTo_7 : decode cX2_upTo 7 = .ok (.arraylength, 1) := by decide +kernel
theorem dX2_upTo_8 : decode cX2_upTo 8 = .ok (.iconst 1, 1) := by decide +kernel
theorem dX2_upTo_9 : decode cX2_upTo 9 = .ok (.isub, 1) := by decide +kernel
theorem dX2_upTo_10 : decode cX2_upTo 10 = .ok (.invokestatic 49, 3) := by decide +kernel
theorem dX2_upTo_13 : decode cX2_upTo 13 = .ok (.istore_n 2, 1) := by decide +kernel
theorem dX2_upTo_14 : decode cX2_upTo 14 = .ok (.iload_n 2, 1) := by decide +kernel
theorem dX2_upTo_15 : decode cX2_upTo 15 = .ok (.ifCond .lt 37, 3) := by decide +kernel
theorem dX2_upTo_18 : decode cX2_upTo 18 = .ok (.aload_n 0, 1) := by decide +kernel
theorem dX2_upTo_19 : decode cX2_upTo 19 = .ok (.getfield 39, 3) := by decide +kernel
theorem dX2_upTo_22 : decode cX2_upTo 22 = .ok (.iload_n 2, 1) := by decide +kernel
theorem dX2_upTo_23 : decode cX2_upTo 23 = .ok (.iaload, 1) := by decide +kernel
theorem dX2_upTo_24 : decode cX2_upTo 24 = .ok (.iload_n 2, 1) := by decide +kernel
theorem dX2_upTo_25 : decode cX2_upTo 25 = .ok (.iconst 0, 1) := by decide +kernel
theorem dX2_upTo_26 : decode cX2_upTo 26 = .ok (.iload_n 1, 1) := by decide +kernel
theorem dX2_upTo_27 : decode cX2_upTo 27 = .ok (.invokestatic 56, 3) := by decide +kernel
theorem dX2_upTo_30 : decode cX2_upTo 30 = .ok (.iand, 1) := by decide +kernel
theorem dX2_upTo_31 : decode cX2_upTo 31 = .ok (.istore_n 3, 1) := by decide +kernel
theorem dX2_upTo_32 : decode cX2_upTo 32 = .ok (.iload_n 3, 1) := by decide +kernel
theorem dX2_upTo_33 : decode cX2_upTo 33 = .ok (.ifCond .eq 13, 3) := by decide +kernel
theorem dX2_upTo_36 : decode cX2_upTo 36 = .ok (.iload_n 2, 1) := by decide +kernel
theorem dX2_upTo_37 : decode cX2_upTo 37 = .ok (.bipush 32, 2) := by decide +kernel
theorem dX2_upTo_39 : decode cX2_upTo 39 = .ok (.imul, 1) := by decide +kernel
theorem dX2_upTo_40 : decode cX2_upTo 40 = .ok (.iload_n 3, 1) := by decide +kernel
theorem dX2_upTo_41 : decode cX2_upTo 41 = .ok (.invokestatic 97, 3) := by decide +kernel
theorem dX2_upTo_44 : decode cX2_upTo 44 = .ok (.iadd, 1) := by decide +kernel
theorem dX2_upTo_45 : decode cX2_upTo 45 = .ok (.ireturn, 1) := by decide +kernel
theorem dX2_upTo_46 : decode cX2_upTo 46 = .ok (.iinc 2 (-1), 3) := by decide +kernel
theorem dX2_upTo_49 : decode cX2_upTo 49 = .ok (.goto (-35), 3) := by decide +kernel
theorem dX2_upTo_52 : decode cX2_upTo 52 = .ok (.ldc 96, 2) := by decide +kernel
theorem dX2_upTo_54 : decode cX2_upTo 54 = .ok (.ireturn, 1) := by decide +kernel
theorem dX2_least_0 : decode cX2_least 0 = .ok (.aload_n 0, 1) := by decide +kernel
theorem dX2_least_1 : decode cX2_least 1 = .ok (.iconst 0, 1) := by decide +kernel
theorem dX2_least_2 : decode cX2_least 2 = .ok (.invokevirtual 100, 3) := by decide +kernel
theorem dX2_least_5 : decode cX2_least 5 = .ok (.ireturn, 1) := by decide +kernel
theorem dX2_greatest_0 : decode cX2_greatest 0 = .ok (.aload_n 0, 1) := by decide +kernel
theorem dX2_greatest_1 : decode cX2_greatest 1 = .ok (.aload_n 0, 1) := by decide +kernel
theorem dX2_greatest_2 : decode cX2_greatest 2 = .ok (.getfield 18, 3) := by decide +kernel
theorem dX2_greatest_5 : decode cX2_greatest 5 = .ok (.iconst 1, 1) := by decide +kernel
theorem dX2_greatest_6 : decode cX2_greatest 6 = .ok (.isub, 1) := by decide +kernel
theorem dX2_greatest_7 : decode cX2_greatest 7 = .ok (.invokevirtual 103, 3) := by decide +kernel
theorem dX2_greatest_10 : decode cX2_greatest 10 = .ok (.ireturn, 1) := by decide +kernel
theorem dX2_following_0 : decode cX2_following 0 = .ok (.aload_n 0, 1) := by decide +kernel
theorem dX2_following_1 : decode cX2_following 1 = .ok (.getfield 15, 3) := by decide +kernel
theorem dX2_following_4 : decode cX2_following 4 = .ok (.tableswitch 76 2 5 #[32, 47, 53, 61], 32) := by decide +kernel
theorem dX2_following_36 : decode cX2_following 36 = .ok (.aload_n 0, 1) := by decide +kernel
theorem dX2_following_37 : decode cX2_following 37 = .ok (.iload_n 1, 1) := by decide +kernel
theorem dX2_following_38 : decode cX2_following 38 = .ok (.iconst 1, 1) := by decide +kernel
theorem dX2_following_39 : decode cX2_following 39 = .ok (.iadd, 1) := by decide +kernel
theorem dX2_following_40 : decode cX2_following 40 = .ok (.invokevirtual 100, 3) := by decide +kernel
theorem dX2_following_43 : decode cX2_following 43 = .ok (.aload_n 0, 1) := by decide +kernel
theorem dX2_following_44 : decode cX2_following 44 = .ok (.invokevirtual 106, 3) := by decide +kernel
theorem dX2_following_47 : decode cX2_following 47 = .ok (.invokestatic 110, 3) := by decide +kernel
theorem dX2_following_50 : decode cX2_following 50 = .ok (.ireturn, 1) := by decide +kernel
theorem dX2_following_51 : decode cX2_following 51 = .ok (.aload_n 0, 1) := by decide +kernel
theorem dX2_following_52 : decode cX2_following 52 = .ok (.iload_n 1, 1) := by decide +kernel
theorem dX2_following_53 : decode cX2_following 53 = .ok (.invokevirtual 100, 3) := by decide +kernel
theorem dX2_following_56 : decode cX2_following 56 = .ok (.ireturn, 1) := by decide +kernel
theorem dX2_following_57 : decode cX2_following 57 = .ok (.aload_n 0, 1) := by decide +kernel
theorem dX2_following_58 : decode cX2_following 58 = .ok (.iload_n 1, 1) := by decide +kernel
theorem dX2_following_59 : decode cX2_following 59 = .ok (.iconst 1, 1) := by decide +kernel
theorem dX2_following_60 : decode cX2_following 60 = .ok (.isub, 1) := by decide +kernel
theorem dX2_following_61 : decode cX2_following 61 = .ok (.invokevirtual 103, 3) := by decide +kernel
theorem dX2_following_64 : decode cX2_following 64 = .ok (.ireturn, 1) := by decide +kernel
theorem dX2_following_65 : decode cX2_following 65 = .ok (.aload_n 0, 1) := by decide +kernel
theorem dX2_following_66 : decode cX2_following 66 = .ok (.iload_n 1, 1) := by decide +kernel
theorem dX2_following_67 : decode cX2_following 67 = .ok (.iconst 1, 1) := by decide +kernel
theorem dX2_following_68 : decode cX2_following 68 = .ok (.isub, 1) := by decide +kernel
theorem dX2_following_69 : decode cX2_following 69 = .ok (.invokevirtual 103, 3) := by decide +kernel
theorem dX2_following_72 : decode cX2_following 72 = .ok (.aload_n 0, 1) := by decide +kernel
theorem dX2_following_73 : decode cX2_following 73 = .ok (.invokevirtual 113, 3) := by decide +kernel
theorem dX2_following_76 : decode cX2_following 76 = .ok (.invokestatic 110, 3) := by decide +kernel
theorem dX2_following_79 : decode cX2_following 79 = .ok (.ireturn, 1) := by decide +kernel
theorem dX2_following_80 : decode cX2_following 80 = .ok (.aload_n 0, 1) := by decide +kernel
theorem dX2_following_81 : decode cX2_following 81 = .ok (.iload_n 1, 1) := by decide +kernel
theorem dX2_following_82 : decode cX2_following 82 = .ok (.iconst 1, 1) := by decide +kernel
theorem dX2_following_83 : decode cX2_following 83 = .ok (.iadd, 1) := by decide +kernel
theorem dX2_following_84 : decode cX2_following 84 = .ok (.invokevirtual 100, 3) := by decide +kernel
theorem dX2_following_87 : decode cX2_following 87 = .ok (.ireturn, 1) := by decide +kernel
theorem dX2_eitherOf_0 : decode cX2_eitherOf 0 = .ok (.iload_n 0, 1) := by decide +kernel
theorem dX2_eitherOf_1 : decode cX2_eitherOf 1 = .ok (.ldc 96, 2) := by decide +kernel
theorem dX2_eitherOf_3 : decode cX2_eitherOf 3 = .ok (.if_icmp .ne 7, 3) := by decide +kernel
theorem dX2_eitherOf_6 : decode cX2_eitherOf 6 = .ok (.iload_n 1, 1) := by decide +kernel
theorem dX2_eitherOf_7 : decode cX2_eitherOf 7 = .ok (.goto 4, 3) := by decide +kernel
theorem dX2_eitherOf_10 : decode cX2_eitherOf 10 = .ok (.iload_n 0, 1) := by decide +kernel
theorem dX2_eitherOf_11 : decode cX2_eitherOf 11 = .ok (.ireturn, 1) := by decide +kernel
theorem dX2_nearest_0 : decode cX2_nearest 0 = .ok (.aload_n 0, 1) := by decide +kernel
theorem dX2_nearest_1 : decode cX2_nearest 1 = .ok (.iload_n 1, 1) := by decide +kernel
theorem dX2_nearest_2 : decode cX2_nearest 2 = .ok (.invokevirtual 100, 3) := by decide +kernel
theorem dX2_nearest_5 : decode cX2_nearest 5 = .ok (.istore_n 2, 1) := by decide +kernel
theorem dX2_nearest_6 : decode cX2_nearest 6 = .ok (.aload_n 0, 1) := by decide +kernel
theorem dX2_nearest_7 : decode cX2_nearest 7 = .ok (.iload_n 1, 1) := by decide +kernel
theorem dX2_nearest_8 : decode cX2_nearest 8 = .ok (.invokevirtual 103, 3) := by decide +kernel
theorem dX2_nearest_11 : decode cX2_nearest 11 = .ok (.istore_n 3, 1) := by decide +kernel
theorem dX2_nearest_12 : decode cX2_nearest 12 = .ok (.iload_n 2, 1) := by decide +kernel
theorem dX2_nearest_13 : decode cX2_nearest 13 = .ok (.ldc 96, 2) := by decide +kernel
theorem dX2_nearest_15 : decode cX2_nearest 15 = .ok (.if_icmp .eq 9, 3) := by decide +kernel
theorem dX2_nearest_18 : decode cX2_nearest 18 = .ok (.iload_n 3, 1) := by decide +kernel
theorem dX2_nearest_19 : decode cX2_nearest 19 = .ok (.ldc 96, 2) := by decide +kernel
theorem dX2_nearest_21 : decode cX2_nearest 21 = .ok (.if_icmp .ne 9, 3) := by decide +kernel
theorem dX2_nearest_24 : decode cX2_nearest 24 = .ok (.iload_n 2, 1) := by decide +kernel
theorem dX2_nearest_25 : decode cX2_nearest 25 = .ok (.iload_n 3, 1) := by decide +kernel
theorem dX2_nearest_26 : decode cX2_nearest 26 = .ok (.invokestatic 110, 3) := by decide +kernel
theorem dX2_nearest_29 : decode cX2_nearest 29 = .ok (.ireturn, 1) := by decide +kernel
theorem dX2_nearest_30 : decode cX2_nearest 30 = .ok (.iload_n 2, 1) := by decide +kernel
theorem dX2_nearest_31 : decode cX2_nearest 31 = .ok (.iload_n 1, 1) := by decide +kernel
theorem dX2_nearest_32 : decode cX2_nearest 32 = .ok (.isub, 1) := by decide +kernel
theorem dX2_nearest_33 : decode cX2_nearest 33 = .ok (.iload_n 1, 1) := by decide +kernel
theorem dX2_nearest_34 : decode cX2_nearest 34 = .ok (.iload_n 3, 1) := by decide +kernel
theorem dX2_nearest_35 : decode cX2_nearest 35 = .ok (.isub, 1) := by decide +kernel
theorem dX2_nearest_36 : decode cX2_nearest 36 = .ok (.if_icmp .ge 7, 3) := by decide +kernel
theorem dX2_nearest_39 : decode cX2_nearest 39 = .ok (.iload_n 2, 1) := by decide +kernel
theorem dX2_nearest_40 : decode cX2_nearest 40 = .ok (.goto 4, 3) := by decide +kernel
theorem dX2_nearest_43 : decode cX2_nearest 43 = .ok (.iload_n 3, 1) := by decide +kernel
theorem dX2_nearest_44 : decode cX2_nearest 44 = .ok (.ireturn, 1) := by decide +kernel
theorem dX2_keyAt_0 : decode cX2_keyAt 0 = .ok (.iload_n 1, 1) := by decide +kernel
theorem dX2_keyAt_1 : decode cX2_keyAt 1 = .ok (.istore_n 2, 1) := by decide +kernel
theorem dX2_keyAt_2 : decode cX2_keyAt 2 = .ok (.iconst 0, 1) := by decide +kernel
theorem dX2_keyAt_3 : decode cX2_keyAt 3 = .ok (.istore_n 3, 1) := by decide +kernel
theorem dX2_keyAt_4 : decode cX2_keyAt 4 = .ok (.iload_n 3, 1) := by decide +kernel
theorem dX2_keyAt_5 : decode cX2_keyAt 5 = .ok (.aload_n 0, 1) := by decide +kernel
theorem dX2_keyAt_6 : decode cX2_keyAt 6 = .ok (.getfield 39, 3) := by decide +kernel
theorem dX2_keyAt_9 : decode cX2_keyAt 9 = .ok (.arraylength, 1) := by decide +kernel
theorem dX2_keyAt_10 : decode cX2_keyAt 10 = .ok (.if_icmp .ge 68, 3) := by decide +kernel
theorem dX2_keyAt_13 : decode cX2_keyAt 13 = .ok (.aload_n 0, 1) := by decide +kernel
theorem dX2_keyAt_14 : decode cX2_keyAt 14 = .ok (.getfield 39, 3) := by decide +kernel
theorem dX2_keyAt_17 : decode cX2_keyAt 17 = .ok (.iload_n 3, 1) := by decide +kernel
theorem dX2_keyAt_18 : decode cX2_keyAt 18 = .ok (.iaload, 1) := by decide +kernel
theorem dX2_keyAt_19 : decode cX2_keyAt 19 = .ok (.istore 4, 2) := by decide +kernel
theorem dX2_keyAt_21 : decode cX2_keyAt 21 = .ok (.iload 4, 2) := by decide +kernel
theorem dX2_keyAt_23 : decode cX2_keyAt 23 = .ok (.invokestatic 84, 3) := by decide +kernel
theorem dX2_keyAt_26 : decode cX2_keyAt 26 = .ok (.istore 5, 2) := by decide +kernel
theorem dX2_keyAt_28 : decode cX2_keyAt 28 = .ok (.iload_n 2, 1) := by decide +kernel
theorem dX2_keyAt_29 : decode cX2_keyAt 29 = .ok (.iload 5, 2) := by decide +kernel
theorem dX2_keyAt_31 : decode cX2_keyAt 31 = .ok (.if_icmp .ge 36, 3) := by decide +kernel
theorem dX2_keyAt_34 : decode cX2_keyAt 34 = .ok (.iconst 0, 1) := by decide +kernel
theorem dX2_keyAt_35 : decode cX2_keyAt 35 = .ok (.istore 6, 2) := by decide +kernel
theorem dX2_keyAt_37 : decode cX2_keyAt 37 = .ok (.iload 6, 2) := by decide +kernel
theorem dX2_keyAt_39 : decode cX2_keyAt 39 = .ok (.iload_n 2, 1) := by decide +kernel
theorem dX2_keyAt_40 : decode cX2_keyAt 40 = .ok (.if_icmp .ge 16, 3) := by decide +kernel
theorem dX2_keyAt_43 : decode cX2_keyAt 43 = .ok (.iload 4, 2) := by decide +kernel
theorem dX2_keyAt_45 : decode cX2_keyAt 45 = .ok (.invokestatic 116, 3) := by decide +kernel
theorem dX2_keyAt_48 : decode cX2_keyAt 48 = .ok (.istore 4, 2) := by decide +kernel
theorem dX2_keyAt_50 : decode cX2_keyAt 50 = .ok (.iinc 6 1, 3) := by decide +kernel
theorem dX2_keyAt_53 : decode cX2_keyAt 53 = .ok (.goto (-16), 3) := by decide +kernel
theorem dX2_keyAt_56 : decode cX2_keyAt 56 = .ok (.iload_n 3, 1) := by decide +kernel
theorem dX2_keyAt_57 : decode cX2_keyAt 57 = .ok (.bipush 32, 2) := by decide +kernel
theorem dX2_keyAt_59 : decode cX2_keyAt 59 = .ok (.imul, 1) := by decide +kernel
theorem dX2_keyAt_60 : decode cX2_keyAt 60 = .ok (.iload 4, 2) := by decide +kernel
theorem dX2_keyAt_62 : decode cX2_keyAt 62 = .ok (.invokestatic 93, 3) := by decide +kernel
theorem dX2_keyAt_65 : decode cX2_keyAt 65 = .ok (.iadd, 1) := by decide +kernel
theorem dX2_keyAt_66 : decode cX2_keyAt 66 = .ok (.ireturn, 1) := by decide +kernel
theorem dX2_keyAt_67 : decode cX2_keyAt 67 = .ok (.iload_n 2, 1) := by decide +kernel
theorem dX2_keyAt_68 : decode cX2_keyAt 68 = .ok (.iload 5, 2) := by decide +kernel
theorem dX2_keyAt_70 : decode cX2_keyAt 70 = .ok (.isub, 1) := by decide +kernel
theorem dX2_keyAt_71 : decode cX2_keyAt 71 = .ok (.istore_n 2, 1) := by decide +kernel
theorem dX2_keyAt_72 : decode cX2_keyAt 72 = .ok (.iinc 3 1, 3) := by decide +kernel
theorem dX2_keyAt_75 : decode cX2_keyAt 75 = .ok (.goto (-71), 3) := by decide +kernel
theorem dX2_keyAt_78 : decode cX2_keyAt 78 = .ok (.ldc 96, 2) := by decide +kernel
theorem dX2_keyAt_80 : decode cX2_keyAt 80 = .ok (.ireturn, 1) := by decide +kernel
theorem dX2_widestFrom_0 : decode cX2_widestFrom 0 = .ok (.ldc 96, 2) := by decide +kernel
theorem dX2_widestFrom_2 : decode cX2_widestFrom 2 = .ok (.istore_n 1, 1) := by decide +kernel
theorem dX2_widestFrom_3 : decode cX2_widestFrom 3 = .ok (.iconst 0, 1) := by decide +kernel
theorem dX2_widestFrom_4 : decode cX2_widestFrom 4 = .ok (.istore_n 2, 1) := by decide +kernel
theorem dX2_widestFrom_5 : decode cX2_widestFrom 5 = .ok (.aload_n 0, 1) := by decide +kernel
theorem dX2_widestFrom_6 : decode cX2_widestFrom 6 = .ok (.invokevirtual 106, 3) := by decide +kernel
theorem dX2_widestFrom_9 : decode cX2_widestFrom 9 = .ok (.istore_n 3, 1) := by decide +kernel
theorem dX2_widestFrom_10 : decode cX2_widestFrom 10 = .ok (.iconst 0, 1) := by decide +kernel
theorem dX2_widestFrom_11 : decode cX2_widestFrom 11 = .ok (.istore 4, 2) := by decide +kernel
theorem dX2_widestFrom_13 : decode cX2_widestFrom 13 = .ok (.iload 4, 2) := by decide +kernel
theorem dX2_widestFrom_15 : decode cX2_widestFrom 15 = .ok (.aload_n 0, 1) := by decide +kernel
theorem dX2_widestFrom_16 : decode cX2_widestFrom 16 = .ok (.getfield 18, 3) := by decide +kernel
theorem dX2_widestFrom_19 : decode cX2_widestFrom 19 = .ok (.if_icmp .ge 49, 3) := by decide +kernel
theorem dX2_widestFrom_22 : decode cX2_widestFrom 22 = .ok (.iload_n 3, 1) := by decide +kernel
theorem dX2_widestFrom_23 : decode cX2_widestFrom 23 = .ok (.ldc 96, 2) := by decide +kernel
theorem dX2_widestFrom_25 : decode cX2_widestFrom 25 = .ok (.if_icmp .eq 43, 3) := by decide +kernel
theorem dX2_widestFrom_28 : decode cX2_widestFrom 28 = .ok (.aload_n 0, 1) := by decide +kernel
theorem dX2_widestFrom_29 : decode cX2_widestFrom 29 = .ok (.iload_n 3, 1) := by decide +kernel
theorem dX2_widestFrom_30 : decode cX2_widestFrom 30 = .ok (.iconst 1, 1) := by decide +kernel
theorem dX2_widestFrom_31 : decode cX2_widestFrom 31 = .ok (.iadd, 1) := by decide +kernel
theorem dX2_widestFrom_32 : decode cX2_widestFrom 32 = .ok (.invokevirtual 100, 3) := by decide +kernel
theorem dX2_widestFrom_35 : decode cX2_widestFrom 35 = .ok (.istore 5, 2) := by decide +kernel
theorem dX2_widestFrom_37 : decode cX2_widestFrom 37 = .ok (.iload 5, 2) := by decide +kernel
theorem dX2_widestFrom_39 : decode cX2_widestFrom 39 = .ok (.ldc 96, 2) := by decide +kernel
theorem dX2_widestFrom_41 : decode cX2_widestFrom 41 = .ok (.if_icmp .eq 18, 3) := by decide +kernel
theorem dX2_widestFrom_44 : decode cX2_widestFrom 44 = .ok (.iload 5, 2) := by decide +kernel
theorem dX2_widestFrom_46 : decode cX2_widestFrom 46 = .ok (.iload_n 3, 1) := by decide +kernel
theorem dX2_widestFrom_47 : decode cX2_widestFrom 47 = .ok (.isub, 1) := by decide +kernel
theorem dX2_widestFrom_48 : decode cX2_widestFrom 48 = .ok (.iload_n 2, 1) := by decide +kernel
theorem dX2_widestFrom_49 : decode cX2_widestFrom 49 = .ok (.if_icmp .le 10, 3) := by decide +kernel
theorem dX2_widestFrom_52 : decode cX2_widestFrom 52 = .ok (.iload_n 3, 1) := by decide +kernel
theorem dX2_widestFrom_53 : decode cX2_widestFrom 53 = .ok (.istore_n 1, 1) := by decide +kernel
theorem dX2_widestFrom_54 : decode cX2_widestFrom 54 = .ok (.iload 5, 2) := by decide +kernel
theorem dX2_widestFrom_56 : decode cX2_widestFrom 56 = .ok (.iload_n 3, 1) := by decide +kernel
theorem dX2_widestFrom_57 : decode cX2_widestFrom 57 = .ok (.isub, 1) := by decide +kernel
theorem dX2_widestFrom_58 : decode cX2_widestFrom 58 = .ok (.istore_n 2, 1) := by decide +kernel
theorem dX2_widestFrom_59 : decode cX2_widestFrom 59 = .ok (.iload 5, 2) := by decide +kernel
theorem dX2_widestFrom_61 : decode cX2_widestFrom 61 = .ok (.istore_n 3, 1) := by decide +kernel
theorem dX2_widestFrom_62 : decode cX2_widestFrom 62 = .ok (.iinc 4 1, 3) := by decide +kernel
theorem dX2_widestFrom_65 : decode cX2_widestFrom 65 = .ok (.goto (-52), 3) := by decide +kernel
theorem dX2_widestFrom_68 : decode cX2_widestFrom 68 = .ok (.iload_n 1, 1) := by decide +kernel
theorem dX2_widestFrom_69 : decode cX2_widestFrom 69 = .ok (.ireturn, 1) := by decide +kernel
theorem dX2_hasWord_0 : decode cX2_hasWord 0 = .ok (.iload_n 1, 1) := by decide +kernel
theorem dX2_hasWord_1 : decode cX2_hasWord 1 = .ok (.ifCond .ne 18, 3) := by decide +kernel
theorem dX2_hasWord_4 : decode cX2_hasWord 4 = .ok (.iload_n 2, 1) := by decide +kernel
theorem dX2_hasWord_5 : decode cX2_hasWord 5 = .ok (.iconst 0, 1) := by decide +kernel
theorem dX2_hasWord_6 : decode cX2_hasWord 6 = .ok (.aload_n 0, 1) := by decide +kernel
theorem dX2_hasWord_7 : decode cX2_hasWord 7 = .ok (.getfield 39, 3) := by decide +kernel
theorem dX2_hasWord_10 : decode cX2_hasWord 10 = .ok (.arraylength, 1) := by decide +kernel
theorem dX2_hasWord_11 : decode cX2_hasWord 11 = .ok (.iconst 1, 1) := by decide +kernel
theorem dX2_hasWord_12 : decode cX2_hasWord 12 = .ok (.isub, 1) := by decide +kernel
theorem dX2_hasWord_13 : decode cX2_hasWord 13 = .ok (.invokestatic 52, 3) := by decide +kernel
theorem dX2_hasWord_16 : decode cX2_hasWord 16 = .ok (.ifCond .ne 21, 3) := by decide +kernel
theorem dX2_hasWord_19 : decode cX2_hasWord 19 = .ok (.iload_n 1, 1) := by decide +kernel
theorem dX2_hasWord_20 : decode cX2_hasWord 20 = .ok (.iconst 1, 1) := by decide +kernel
theorem dX2_hasWord_21 : decode cX2_hasWord 21 = .ok (.if_icmp .ne 20, 3) := by decide +kernel
theorem dX2_hasWord_24 : decode cX2_hasWord 24 = .ok (.aload_n 0, 1) := by decide +kernel
theorem dX2_hasWord_25 : decode cX2_hasWord 25 = .ok (.getfield 39, 3) := by decide +kernel
theorem dX2_hasWord_28 : decode cX2_hasWord 28 = .ok (.arraylength, 1) := by decide +kernel
theorem dX2_hasWord_29 : decode cX2_hasWord 29 = .ok (.iconst 1, 1) := by decide +kernel
theorem dX2_hasWord_30 : decode cX2_hasWord 30 = .ok (.if_icmp .le 11, 3) := by decide +kernel
theorem dX2_hasWord_33 : decode cX2_hasWord 33 = .ok (.iload_n 2, 1) := by decide +kernel
theorem dX2_hasWord_34 : decode cX2_hasWord 34 = .ok (.ifCond .ne 7, 3) := by decide +kernel
theorem dX2_hasWord_37 : decode cX2_hasWord 37 = .ok (.iconst 1, 1) := by decide +kernel
theorem dX2_hasWord_38 : decode cX2_hasWord 38 = .ok (.goto 4, 3) := by decide +kernel
theorem dX2_hasWord_41 : decode cX2_hasWord 41 = .ok (.iconst 0, 1) := by decide +kernel
theorem dX2_hasWord_42 : decode cX2_hasWord 42 = .ok (.ireturn, 1) := by decide +kernel
theorem dX2_wordAt_0 : decode cX2_wordAt 0 = .ok (.iload_n 1, 1) := by decide +kernel
theorem dX2_wordAt_1 : decode cX2_wordAt 1 = .ok (.ifCond .ne 12, 3) := by decide +kernel
theorem dX2_wordAt_4 : decode cX2_wordAt 4 = .ok (.aload_n 0, 1) := by decide +kernel
theorem dX2_wordAt_5 : decode cX2_wordAt 5 = .ok (.getfield 39, 3) := by decide +kernel
theorem dX2_wordAt_8 : decode cX2_wordAt 8 = .ok (.iload_n 2, 1) := by decide +kernel
theorem dX2_wordAt_9 : decode cX2_wordAt 9 = .ok (.iaload, 1) := by decide +kernel
theorem dX2_wordAt_10 : decode cX2_wordAt 10 = .ok (.goto 7, 3) := by decide +kernel
theorem dX2_wordAt_13 : decode cX2_wordAt 13 = .ok (.aload_n 0, 1) := by decide +kernel
theorem dX2_wordAt_14 : decode cX2_wordAt 14 = .ok (.invokevirtual 119, 3) := by decide +kernel
theorem dX2_wordAt_17 : decode cX2_wordAt 17 = .ok (.ireturn, 1) := by decide +kernel
theorem dX2_upperWord_0 : decode cX2_upperWord 0 = .ok (.iconst 0, 1) := by decide +kernel
theorem dX2_upperWord_1 : decode cX2_upperWord 1 = .ok (.istore_n 1, 1) := by decide +kernel
theorem dX2_upperWord_2 : decode cX2_upperWord 2 = .ok (.iconst 0, 1) := by decide +kernel
theorem dX2_upperWord_3 : decode cX2_upperWord 3 = .ok (.istore_n 2, 1) := by decide +kernel
theorem dX2_upperWord_4 : decode cX2_upperWord 4 = .ok (.iload_n 2, 1) := by decide +kernel
theorem dX2_upperWord_5 : decode cX2_upperWord 5 = .ok (.aload_n 0, 1) := by decide +kernel
theorem dX2_upperWord_6 : decode cX2_upperWord 6 = .ok (.getfield 39, 3) := by decide +kernel
theorem dX2_upperWord_9 : decode cX2_upperWord 9 = .ok (.arraylength, 1) := by decide +kernel
theorem dX2_upperWord_10 : decode cX2_upperWord 10 = .ok (.if_icmp .ge 28, 3) := by decide +kernel
theorem dX2_upperWord_13 : decode cX2_upperWord 13 = .ok (.iload_n 1, 1) := by decide +kernel
theorem dX2_upperWord_14 : decode cX2_upperWord 14 = .ok (.aload_n 0, 1) := by decide +kernel
theorem dX2_upperWord_15 : decode cX2_upperWord 15 = .ok (.getfield 39, 3) := by decide +kernel
theorem dX2_upperWord_18 : decode cX2_upperWord 18 = .ok (.iload_n 2, 1) := by decide +kernel
theorem dX2_upperWord_19 : decode cX2_upperWord 19 = .ok (.iaload, 1) := by decide +kernel
theorem dX2_upperWord_20 : decode cX2_upperWord 20 = .ok (.ifCond .ne 7, 3) := by decide +kernel
theorem dX2_upperWord_23 : decode cX2_upperWord 23 = .ok (.iconst 0, 1) := by decide +kernel
theorem dX2_upperWord_24 : decode cX2_upperWord 24 = .ok (.goto 6, 3) := by decide +kernel
theorem dX2_upperWord_27 : decode cX2_upperWord 27 = .ok (.iconst 1, 1) := by decide +kernel
theorem dX2_upperWord_28 : decode cX2_upperWord 28 = .ok (.iload_n 2, 1) := by decide +kernel
theorem dX2_upperWord_29 : decode cX2_upperWord 29 = .ok (.ishl, 1) := by decide +kernel
theorem dX2_upperWord_30 : decode cX2_upperWord 30 = .ok (.ior, 1) := by decide +kernel
theorem dX2_upperWord_31 : decode cX2_upperWord 31 = .ok (.istore_n 1, 1) := by decide +kernel
theorem dX2_upperWord_32 : decode cX2_upperWord 32 = .ok (.iinc 2 1, 3) := by decide +kernel
theorem dX2_upperWord_35 : decode cX2_upperWord 35 = .ok (.goto (-31), 3) := by decide +kernel
theorem dX2_upperWord_38 : decode cX2_upperWord 38 = .ok (.iload_n 1, 1) := by decide +kernel
theorem dX2_upperWord_39 : decode cX2_upperWord 39 = .ok (.ireturn, 1) := by decide +kernel
theorem dX2_isHigh_0 : decode cX2_isHigh 0 = .ok (.iload_n 1, 1) := by decide +kernel
theorem dX2_isHigh_1 : decode cX2_isHigh 1 = .ok (.iconst 0, 1) := by decide +kernel
theorem dX2_isHigh_2 : decode cX2_isHigh 2 = .ok (.iconst 1, 1) := by decide +kernel
theorem dX2_isHigh_3 : decode cX2_isHigh 3 = .ok (.aload_n 0, 1) := by decide +kernel
theorem dX2_isHigh_4 : decode cX2_isHigh 4 = .ok (.getfield 33, 3) := by decide +kernel
theorem dX2_isHigh_7 : decode cX2_isHigh 7 = .ok (.ishl, 1) := by decide +kernel
theorem dX2_isHigh_8 : decode cX2_isHigh 8 = .ok (.iconst 1, 1) := by decide +kernel
theorem dX2_isHigh_9 : decode cX2_isHigh 9 = .ok (.isub, 1) := by decide +kernel
theorem dX2_isHigh_10 : decode cX2_isHigh 10 = .ok (.invokestatic 52, 3) := by decide +kernel
theorem dX2_isHigh_13 : decode cX2_isHigh 13 = .ok (.ireturn, 1) := by decide +kernel
theorem dX2_clusterAt_0 : decode cX2_clusterAt 0 = .ok (.iload_n 1, 1) := by decide +kernel
theorem dX2_clusterAt_1 : decode cX2_clusterAt 1 = .ok (.aload_n 0, 1) := by decide +kernel
theorem dX2_clusterAt_2 : decode cX2_clusterAt 2 = .ok (.getfield 27, 3) := by decide +kernel
theorem dX2_clusterAt_5 : decode cX2_clusterAt 5 = .ok (.ishl, 1) := by decide +kernel
theorem dX2_clusterAt_6 : decode cX2_clusterAt 6 = .ok (.bipush 32, 2) := by decide +kernel
theorem dX2_clusterAt_8 : decode cX2_clusterAt 8 = .ok (.idiv, 1) := by decide +kernel
theorem dX2_clusterAt_9 : decode cX2_clusterAt 9 = .ok (.istore_n 3, 1) := by decide +kernel
theorem dX2_clusterAt_10 : decode cX2_clusterAt 10 = .ok (.iload_n 2, 1) := by decide +kernel
theorem dX2_clusterAt_11 : decode cX2_clusterAt 11 = .ok (.ldc 96, 2) := by decide +kernel
theorem dX2_clusterAt_13 : decode cX2_clusterAt 13 = .ok (.if_icmp .eq 15, 3) := by decide +kernel
theorem dX2_clusterAt_16 : decode cX2_clusterAt 16 = .ok (.iload_n 2, 1) := by decide +kernel
theorem dX2_clusterAt_17 : decode cX2_clusterAt 17 = .ok (.bipush 32, 2) := by decide +kernel
theorem dX2_clusterAt_19 : decode cX2_clusterAt 19 = .ok (.idiv, 1) := by decide +kernel
theorem dX2_clusterAt_20 : decode cX2_clusterAt 20 = .ok (.iload_n 3, 1) := by decide +kernel
theorem dX2_clusterAt_21 : decode cX2_clusterAt 21 = .ok (.if_icmp .ne 7, 3) := by decide +kernel
theorem dX2_clusterAt_24 : decode cX2_clusterAt 24 = .ok (.iconst 1, 1) := by decide +kernel
theorem dX2_clusterAt_25 : decode cX2_clusterAt 25 = .ok (.goto 4, 3) := by decide +kernel
theorem dX2_clusterAt_28 : decode cX2_clusterAt 28 = .ok (.iconst 0, 1) := by decide +kernel
theorem dX2_clusterAt_29 : decode cX2_clusterAt 29 = .ok (.istore 4, 2) := by decide +kernel
theorem dX2_clusterAt_31 : decode cX2_clusterAt 31 = .ok (.iload 4, 2) := by decide +kernel
theorem dX2_clusterAt_33 : decode cX2_clusterAt 33 = .ok (.ifCond .eq 15, 3) := by decide +kernel
theorem dX2_clusterAt_36 : decode cX2_clusterAt 36 = .ok (.aload_n 0, 1) := by decide +kernel
theorem dX2_clusterAt_37 : decode cX2_clusterAt 37 = .ok (.getfield 39, 3) := by decide +kernel
theorem dX2_clusterAt_40 : decode cX2_clusterAt 40 = .ok (.iload_n 3, 1) := by decide +kernel
theorem dX2_clusterAt_41 : decode cX2_clusterAt 41 = .ok (.iaload, 1) := by decide +kernel
theorem dX2_clusterAt_42 : decode cX2_clusterAt 42 = .ok (.invokestatic 116, 3) := by decide +kernel
theorem dX2_clusterAt_45 : decode cX2_clusterAt 45 = .ok (.goto 9, 3) := by decide +kernel
theorem dX2_clusterAt_48 : decode cX2_clusterAt 48 = .ok (.aload_n 0, 1) := by decide +kernel
theorem dX2_clusterAt_49 : decode cX2_clusterAt 49 = .ok (.getfield 39, 3) := by decide +kernel
theorem dX2_clusterAt_52 : decode cX2_clusterAt 52 = .ok (.iload_n 3, 1) := by decide +kernel
theorem dX2_clusterAt_53 : decode cX2_clusterAt 53 = .ok (.iaload, 1) := by decide +kernel
theorem dX2_clusterAt_54 : decode cX2_clusterAt 54 = .ok (.aload_n 0, 1) := by decide +kernel
theorem dX2_clusterAt_55 : decode cX2_clusterAt 55 = .ok (.getfield 27, 3) := by decide +kernel
theorem dX2_clusterAt_58 : decode cX2_clusterAt 58 = .ok (.iload_n 1, 1) := by decide +kernel
theorem dX2_clusterAt_59 : decode cX2_clusterAt 59 = .ok (.invokestatic 122, 3) := by decide +kernel
theorem dX2_clusterAt_62 : decode cX2_clusterAt 62 = .ok (.ireturn, 1) := by decide +kernel
theorem dX2_rootSummary_0 : decode cX2_rootSummary 0 = .ok (.aload_n 0, 1) := by decide +kernel
theorem dX2_rootSummary_1 : decode cX2_rootSummary 1 = .ok (.invokevirtual 106, 3) := by decide +kernel
theorem dX2_rootSummary_4 : decode cX2_rootSummary 4 = .ok (.istore_n 1, 1) := by decide +kernel
theorem dX2_rootSummary_5 : decode cX2_rootSummary 5 = .ok (.iconst 0, 1) := by decide +kernel
theorem dX2_rootSummary_6 : decode cX2_rootSummary 6 = .ok (.istore_n 2, 1) := by decide +kernel
theorem dX2_rootSummary_7 : decode cX2_rootSummary 7 = .ok (.iconst 0, 1) := by decide +kernel
theorem dX2_rootSummary_8 : decode cX2_rootSummary 8 = .ok (.istore_n 3, 1) := by decide +kernel
theorem dX2_rootSummary_9 : decode cX2_rootSummary 9 = .ok (.iload_n 3, 1) := by decide +kernel
theorem dX2_rootSummary_10 : decode cX2_rootSummary 10 = .ok (.iconst 1, 1) := by decide +kernel
theorem dX2_rootSummary_11 : decode cX2_rootSummary 11 = .ok (.aload_n 0, 1) := by decide +kernel
theorem dX2_rootSummary_12 : decode cX2_rootSummary 12 = .ok (.getfield 33, 3) := by decide +kernel
theorem dX2_rootSummary_15 : decode cX2_rootSummary 15 = .ok (.ishl, 1) := by decide +kernel
theorem dX2_rootSummary_16 : decode cX2_rootSummary 16 = .ok (.if_icmp .ge 28, 3) := by decide +kernel
theorem dX2_rootSummary_19 : decode cX2_rootSummary 19 = .ok (.iload_n 2, 1) := by decide +kernel
theorem dX2_rootSummary_20 : decode cX2_rootSummary 20 = .ok (.aload_n 0, 1) := by decide +kernel
theorem dX2_rootSummary_21 : decode cX2_rootSummary 21 = .ok (.iload_n 3, 1) := by decide +kernel
theorem dX2_rootSummary_22 : decode cX2_rootSummary 22 = .ok (.iload_n 1, 1) := by decide +kernel
theorem dX2_rootSummary_23 : decode cX2_rootSummary 23 = .ok (.invokevirtual 125, 3) := by decide +kernel
theorem dX2_rootSummary_26 : decode cX2_rootSummary 26 = .ok (.ifCond .ne 7, 3) := by decide +kernel
theorem dX2_rootSummary_29 : decode cX2_rootSummary 29 = .ok (.iconst 0, 1) := by decide +kernel
theorem dX2_rootSummary_30 : decode cX2_rootSummary 30 = .ok (.goto 6, 3) := by decide +kernel
theorem dX2_rootSummary_33 : decode cX2_rootSummary 33 = .ok (.iconst 1, 1) := by decide +kernel
theorem dX2_rootSummary_34 : decode cX2_rootSummary 34 = .ok (.iload_n 3, 1) := by decide +kernel
theorem dX2_rootSummary_35 : decode cX2_rootSummary 35 = .ok (.ishl, 1) := by decide +kernel
theorem dX2_rootSummary_36 : decode cX2_rootSummary 36 = .ok (.ior, 1) := by decide +kernel
theorem dX2_rootSummary_37 : decode cX2_rootSummary 37 = .ok (.istore_n 2, 1) := by decide +kernel
theorem dX2_rootSummary_38 : decode cX2_rootSummary 38 = .ok (.iinc 3 1, 3) := by decide +kernel
theorem dX2_rootSummary_41 : decode cX2_rootSummary 41 = .ok (.goto (-32), 3) := by decide +kernel
theorem dX2_rootSummary_44 : decode cX2_rootSummary 44 = .ok (.iload_n 2, 1) := by decide +kernel
theorem dX2_rootSummary_45 : decode cX2_rootSummary 45 = .ok (.ireturn, 1) := by decide +kernel
theorem dX2_rootNodes_0 : decode cX2_rootNodes 0 = .ok (.aload_n 0, 1) := by decide +kernel
theorem dX2_rootNodes_1 : decode cX2_rootNodes 1 = .ok (.invokevirtual 106, 3) := by decide +kernel
theorem dX2_rootNodes_4 : decode cX2_rootNodes 4 = .ok (.istore_n 1, 1) := by decide +kernel
theorem dX2_rootNodes_5 : decode cX2_rootNodes 5 = .ok (.iload_n 1, 1) := by decide +kernel
theorem dX2_rootNodes_6 : decode cX2_rootNodes 6 = .ok (.ldc 96, 2) := by decide +kernel
theorem dX2_rootNodes_8 : decode cX2_rootNodes 8 = .ok (.if_icmp .ne 5, 3) := by decide +kernel
theorem dX2_rootNodes_11 : decode cX2_rootNodes 11 = .ok (.iconst 0, 1) := by decide +kernel
theorem dX2_rootNodes_12 : decode cX2_rootNodes 12 = .ok (.ireturn, 1) := by decide +kernel
theorem dX2_rootNodes_13 : decode cX2_rootNodes 13 = .ok (.iconst 1, 1) := by decide +kernel
theorem dX2_rootNodes_14 : decode cX2_rootNodes 14 = .ok (.aload_n 0, 1) := by decide +kernel
theorem dX2_rootNodes_15 : decode cX2_rootNodes 15 = .ok (.invokevirtual 128, 3) := by decide +kernel
theorem dX2_rootNodes_18 : decode cX2_rootNodes 18 = .ok (.aload_n 0, 1) := by decide +kernel
theorem dX2_rootNodes_19 : decode cX2_rootNodes 19 = .ok (.getfield 33, 3) := by decide +kernel
theorem dX2_rootNodes_22 : decode cX2_rootNodes 22 = .ok (.invokestatic 131, 3) := by decide +kernel
theorem dX2_rootNodes_25 : decode cX2_rootNodes 25 = .ok (.iadd, 1) := by decide +kernel
theorem dX2_rootNodes_26 : decode cX2_rootNodes 26 = .ok (.istore_n 2, 1) := by decide +kernel
theorem dX2_rootNodes_27 : decode cX2_rootNodes 27 = .ok (.iconst 0, 1) := by decide +kernel
theorem dX2_rootNodes_28 : decode cX2_rootNodes 28 = .ok (.istore_n 3, 1) := by decide +kernel
theorem dX2_rootNodes_29 : decode cX2_rootNodes 29 = .ok (.iload_n 3, 1) := by decide +kernel
theorem dX2_rootNodes_30 : decode cX2_rootNodes 30 = .ok (.iconst 1, 1) := by decide +kernel
theorem dX2_rootNodes_31 : decode cX2_rootNodes 31 = .ok (.aload_n 0, 1) := by decide +kernel
theorem dX2_rootNodes_32 : decode cX2_rootNodes 32 = .ok (.getfield 33, 3) := by decide +kernel
theorem dX2_rootNodes_35 : decode cX2_rootNodes 35 = .ok (.ishl, 1) := by decide +kernel
theorem dX2_rootNodes_36 : decode cX2_rootNodes 36 = .ok (.if_icmp .ge 25, 3) := by decide +kernel
theorem dX2_rootNodes_39 : decode cX2_rootNodes 39 = .ok (.iload_n 2, 1) := by decide +kernel
theorem dX2_rootNodes_40 : decode cX2_rootNodes 40 = .ok (.aload_n 0, 1) := by decide +kernel
theorem dX2_rootNodes_41 : decode cX2_rootNodes 41 = .ok (.iload_n 3, 1) := by decide +kernel
theorem dX2_rootNodes_42 : decode cX2_rootNodes 42 = .ok (.iload_n 1, 1) := by decide +kernel
theorem dX2_rootNodes_43 : decode cX2_rootNodes 43 = .ok (.invokevirtual 125, 3) := by decide +kernel
theorem dX2_rootNodes_46 : decode cX2_rootNodes 46 = .ok (.aload_n 0, 1) := by decide +kernel
theorem dX2_rootNodes_47 : decode cX2_rootNodes 47 = .ok (.getfield 27, 3) := by decide +kernel
theorem dX2_rootNodes_50 : decode cX2_rootNodes 50 = .ok (.invokestatic 131, 3) := by decide +kernel
theorem dX2_rootNodes_53 : decode cX2_rootNodes 53 = .ok (.iadd, 1) := by decide +kernel
theorem dX2_rootNodes_54 : decode cX2_rootNodes 54 = .ok (.istore_n 2, 1) := by decide +kernel
theorem dX2_rootNodes_55 : decode cX2_rootNodes 55 = .ok (.iinc 3 1, 3) := by decide +kernel
theorem dX2_rootNodes_58 : decode cX2_rootNodes 58 = .ok (.goto (-29), 3) := by decide +kernel
theorem dX2_rootNodes_61 : decode cX2_rootNodes 61 = .ok (.iload_n 2, 1) := by decide +kernel
theorem dX2_rootNodes_62 : decode cX2_rootNodes 62 = .ok (.ireturn, 1) := by decide +kernel
theorem dX2_rootDepth_0 : decode cX2_rootDepth 0 = .ok (.aload_n 0, 1) := by decide +kernel
theorem dX2_rootDepth_1 : decode cX2_rootDepth 1 = .ok (.invokevirtual 106, 3) := by decide +kernel
theorem dX2_rootDepth_4 : decode cX2_rootDepth 4 = .ok (.istore_n 1, 1) := by decide +kernel
theorem dX2_rootDepth_5 : decode cX2_rootDepth 5 = .ok (.iload_n 1, 1) := by decide +kernel
theorem dX2_rootDepth_6 : decode cX2_rootDepth 6 = .ok (.ldc 96, 2) := by decide +kernel
theorem dX2_rootDepth_8 : decode cX2_rootDepth 8 = .ok (.if_icmp .ne 5, 3) := by decide +kernel
theorem dX2_rootDepth_11 : decode cX2_rootDepth 11 = .ok (.iconst 0, 1) := by decide +kernel
theorem dX2_rootDepth_12 : decode cX2_rootDepth 12 = .ok (.ireturn, 1) := by decide +kernel
theorem dX2_rootDepth_13 : decode cX2_rootDepth 13 = .ok (.aload_n 0, 1) := by decide +kernel
theorem dX2_rootDepth_14 : decode cX2_rootDepth 14 = .ok (.invokevirtual 128, 3) := by decide +kernel
theorem dX2_rootDepth_17 : decode cX2_rootDepth 17 = .ok (.aload_n 0, 1) := by decide +kernel
theorem dX2_rootDepth_18 : decode cX2_rootDepth 18 = .ok (.getfield 33, 3) := by decide +kernel
theorem dX2_rootDepth_21 : decode cX2_rootDepth 21 = .ok (.invokestatic 134, 3) := by decide +kernel
theorem dX2_rootDepth_24 : decode cX2_rootDepth 24 = .ok (.istore_n 2, 1) := by decide +kernel
theorem dX2_rootDepth_25 : decode cX2_rootDepth 25 = .ok (.iconst 0, 1) := by decide +kernel
theorem dX2_rootDepth_26 : decode cX2_rootDepth 26 = .ok (.istore_n 3, 1) := by decide +kernel
theorem dX2_rootDepth_27 : decode cX2_rootDepth 27 = .ok (.iload_n 3, 1) := by decide +kernel
theorem dX2_rootDepth_28 : decode cX2_rootDepth 28 = .ok (.iconst 1, 1) := by decide +kernel
theorem dX2_rootDepth_29 : decode cX2_rootDepth 29 = .ok (.aload_n 0, 1) := by decide +kernel
theorem dX2_rootDepth_30 : decode cX2_rootDepth 30 = .ok (.getfield 33, 3) := by decide +kernel
theorem dX2_rootDepth_33 : decode cX2_rootDepth 33 = .ok (.ishl, 1) := by decide +kernel
theorem dX2_rootDepth_34 : decode cX2_rootDepth 34 = .ok (.if_icmp .ge 27, 3) := by decide +kernel
theorem dX2_rootDepth_37 : decode cX2_rootDepth 37 = .ok (.iload_n 2, 1) := by decide +kernel
theorem dX2_rootDepth_38 : decode cX2_rootDepth 38 = .ok (.aload_n 0, 1) := by decide +kernel
theorem dX2_rootDepth_39 : decode cX2_rootDepth 39 = .ok (.iload_n 3, 1) := by decide +kernel
theorem dX2_rootDepth_40 : decode cX2_rootDepth 40 = .ok (.iload_n 1, 1) := by decide +kernel
theorem dX2_rootDepth_41 : decode cX2_rootDepth 41 = .ok (.invokevirtual 125, 3) := by decide +kernel
theorem dX2_rootDepth_44 : decode cX2_rootDepth 44 = .ok (.aload_n 0, 1) := by decide +kernel
theorem dX2_rootDepth_45 : decode cX2_rootDepth 45 = .ok (.getfield 27, 3) := by decide +kernel
theorem dX2_rootDepth_48 : decode cX2_rootDepth 48 = .ok (.invokestatic 134, 3) := by decide +kernel
theorem dX2_rootDepth_51 : decode cX2_rootDepth 51 = .ok (.invokestatic 43, 3) := by decide +kernel
theorem dX2_rootDepth_54 : decode cX2_rootDepth 54 = .ok (.istore_n 2, 1) := by decide +kernel
theorem dX2_rootDepth_55 : decode cX2_rootDepth 55 = .ok (.iinc 3 1, 3) := by decide +kernel
theorem dX2_rootDepth_58 : decode cX2_rootDepth 58 = .ok (.goto (-31), 3) := by decide +kernel
theorem dX2_rootDepth_61 : decode cX2_rootDepth 61 = .ok (.iconst 1, 1) := by decide +kernel
theorem dX2_rootDepth_62 : decode cX2_rootDepth 62 = .ok (.iload_n 2, 1) := by decide +kernel
theorem dX2_rootDepth_63 : decode cX2_rootDepth 63 = .ok (.iadd, 1) := by decide +kernel
theorem dX2_rootDepth_64 : decode cX2_rootDepth 64 = .ok (.ireturn, 1) := by decide +kernel
theorem dX2_rootSteps_0 : decode cX2_rootSteps 0 = .ok (.aload_n 0, 1) := by decide +kernel
theorem dX2_rootSteps_1 : decode cX2_rootSteps 1 = .ok (.invokevirtual 106, 3) := by decide +kernel
theorem dX2_rootSteps_4 : decode cX2_rootSteps 4 = .ok (.istore_n 2, 1) := by decide +kernel
theorem dX2_rootSteps_5 : decode cX2_rootSteps 5 = .ok (.iload_n 2, 1) := by decide +kernel
theorem dX2_rootSteps_6 : decode cX2_rootSteps 6 = .ok (.ldc 96, 2) := by decide +kernel
theorem dX2_rootSteps_8 : decode cX2_rootSteps 8 = .ok (.if_icmp .eq 8, 3) := by decide +kernel
theorem dX2_rootSteps_11 : decode cX2_rootSteps 11 = .ok (.iload_n 1, 1) := by decide +kernel
theorem dX2_rootSteps_12 : decode cX2_rootSteps 12 = .ok (.iload_n 2, 1) := by decide +kernel
theorem dX2_rootSteps_13 : decode cX2_rootSteps 13 = .ok (.if_icmp .ge 5, 3) := by decide +kernel
theorem dX2_rootSteps_16 : decode cX2_rootSteps 16 = .ok (.iconst 1, 1) := by decide +kernel
theorem dX2_rootSteps_17 : decode cX2_rootSteps 17 = .ok (.ireturn, 1) := by decide +kernel
theorem dX2_rootSteps_18 : decode cX2_rootSteps 18 = .ok (.iload_n 1, 1) := by decide +kernel
theorem dX2_rootSteps_19 : decode cX2_rootSteps 19 = .ok (.aload_n 0, 1) := by decide +kernel
theorem dX2_rootSteps_20 : decode cX2_rootSteps 20 = .ok (.getfield 27, 3) := by decide +kernel
theorem dX2_rootSteps_23 : decode cX2_rootSteps 23 = .ok (.ishr, 1) := by decide +kernel
theorem dX2_rootSteps_24 : decode cX2_rootSteps 24 = .ok (.istore_n 3, 1) := by decide +kernel
theorem dX2_rootSteps_25 : decode cX2_rootSteps 25 = .ok (.iload_n 1, 1) := by decide +kernel
theorem dX2_rootSteps_26 : decode cX2_rootSteps 26 = .ok (.iload_n 3, 1) := by decide +kernel
theorem dX2_rootSteps_27 : decode cX2_rootSteps 27 = .ok (.aload_n 0, 1) := by decide +kernel
theorem dX2_rootSteps_28 : decode cX2_rootSteps 28 = .ok (.getfield 27, 3) := by decide +kernel
theorem dX2_rootSteps_31 : decode cX2_rootSteps 31 = .ok (.ishl, 1) := by decide +kernel
theorem dX2_rootSteps_32 : decode cX2_rootSteps 32 = .ok (.isub, 1) := by decide +kernel
theorem dX2_rootSteps_33 : decode cX2_rootSteps 33 = .ok (.istore 4, 2) := by decide +kernel
theorem dX2_rootSteps_35 : decode cX2_rootSteps 35 = .ok (.aload_n 0, 1) := by decide +kernel
theorem dX2_rootSteps_36 : decode cX2_rootSteps 36 = .ok (.iload_n 3, 1) := by decide +kernel
theorem dX2_rootSteps_37 : decode cX2_rootSteps 37 = .ok (.iload_n 2, 1) := by decide +kernel
theorem dX2_rootSteps_38 : decode cX2_rootSteps 38 = .ok (.invokevirtual 125, 3) := by decide +kernel
theorem dX2_rootSteps_41 : decode cX2_rootSteps 41 = .ok (.istore 5, 2) := by decide +kernel
theorem dX2_rootSteps_43 : decode cX2_rootSteps 43 = .ok (.iload 5, 2) := by decide +kernel
theorem dX2_rootSteps_45 : decode cX2_rootSteps 45 = .ok (.ifCond .eq 27, 3) := by decide +kernel
theorem dX2_rootSteps_48 : decode cX2_rootSteps 48 = .ok (.iload 5, 2) := by decide +kernel
theorem dX2_rootSteps_50 : decode cX2_rootSteps 50 = .ok (.invokestatic 97, 3) := by decide +kernel
theorem dX2_rootSteps_53 : decode cX2_rootSteps 53 = .ok (.iload 4, 2) := by decide +kernel
theorem dX2_rootSteps_55 : decode cX2_rootSteps 55 = .ok (.if_icmp .le 17, 3) := by decide +kernel
theorem dX2_rootSteps_58 : decode cX2_rootSteps 58 = .ok (.iconst 1, 1) := by decide +kernel
theorem dX2_rootSteps_59 : decode cX2_rootSteps 59 = .ok (.iload 5, 2) := by decide +kernel
theorem dX2_rootSteps_61 : decode cX2_rootSteps 61 = .ok (.aload_n 0, 1) := by decide +kernel
theorem dX2_rootSteps_62 : decode cX2_rootSteps 62 = .ok (.getfield 27, 3) := by decide +kernel
theorem dX2_rootSteps_65 : decode cX2_rootSteps 65 = .ok (.iload 4, 2) := by decide +kernel
theorem dX2_rootSteps_67 : decode cX2_rootSteps 67 = .ok (.invokestatic 137, 3) := by decide +kernel
theorem dX2_rootSteps_70 : decode cX2_rootSteps 70 = .ok (.iadd, 1) := by decide +kernel
theorem dX2_rootSteps_71 : decode cX2_rootSteps 71 = .ok (.ireturn, 1) := by decide +kernel
theorem dX2_rootSteps_72 : decode cX2_rootSteps 72 = .ok (.iconst 1, 1) := by decide +kernel
theorem dX2_rootSteps_73 : decode cX2_rootSteps 73 = .ok (.aload_n 0, 1) := by decide +kernel
theorem dX2_rootSteps_74 : decode cX2_rootSteps 74 = .ok (.invokevirtual 128, 3) := by decide +kernel
theorem dX2_rootSteps_77 : decode cX2_rootSteps 77 = .ok (.aload_n 0, 1) := by decide +kernel
theorem dX2_rootSteps_78 : decode cX2_rootSteps 78 = .ok (.getfield 33, 3) := by decide +kernel
theorem dX2_rootSteps_81 : decode cX2_rootSteps 81 = .ok (.iload_n 3, 1) := by decide +kernel
theorem dX2_rootSteps_82 : decode cX2_rootSteps 82 = .ok (.invokestatic 137, 3) := by decide +kernel
theorem dX2_rootSteps_85 : decode cX2_rootSteps 85 = .ok (.iadd, 1) := by decide +kernel
theorem dX2_rootSteps_86 : decode cX2_rootSteps 86 = .ok (.ireturn, 1) := by decide +kernel
