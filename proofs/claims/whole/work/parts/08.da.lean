theorem dX0_init_0 : decode cX0_init 0 = .ok (.aload_n 0, 1) := by decide +kernel
theorem dX0_init_1 : decode cX0_init 1 = .ok (.invokespecial 3, 3) := by decide +kernel
theorem dX0_init_4 : decode cX0_init 4 = .ok (.aload_n 0, 1) := by decide +kernel
theorem dX0_init_5 : decode cX0_init 5 = .ok (.bipush 24, 2) := by decide +kernel
theorem dX0_init_7 : decode cX0_init 7 = .ok (.anewarray 9, 3) := by decide +kernel
theorem dX0_init_10 : decode cX0_init 10 = .ok (.putfield 11, 3) := by decide +kernel
theorem dX0_init_13 : decode cX0_init 13 = .ok (.aload_n 0, 1) := by decide +kernel
theorem dX0_init_14 : decode cX0_init 14 = .ok (.bipush 24, 2) := by decide +kernel
theorem dX0_init_16 : decode cX0_init 16 = .ok (.bipush 32, 2) := by decide +kernel
theorem dX0_init_18 : decode cX0_init 18 = .ok (.multianewarray 17 2, 4) := by decide +kernel
theorem dX0_init_22 : decode cX0_init 22 = .ok (.putfield 19, 3) := by decide +kernel
theorem dX0_init_25 : decode cX0_init 25 = .ok (.aload_n 0, 1) := by decide +kernel
theorem dX0_init_26 : decode cX0_init 26 = .ok (.iconst 0, 1) := by decide +kernel
theorem dX0_init_27 : decode cX0_init 27 = .ok (.putfield 22, 3) := by decide +kernel
theorem dX0_init_30 : decode cX0_init 30 = .ok (.aload_n 0, 1) := by decide +kernel
theorem dX0_init_31 : decode cX0_init 31 = .ok (.iconst 0, 1) := by decide +kernel
theorem dX0_init_32 : decode cX0_init 32 = .ok (.putfield 26, 3) := by decide +kernel
theorem dX0_init_35 : decode cX0_init 35 = .ok (.return_, 1) := by decide +kernel
theorem dX0_keep_0 : decode cX0_keep 0 = .ok (.aload_n 0, 1) := by decide +kernel
theorem dX0_keep_1 : decode cX0_keep 1 = .ok (.getfield 11, 3) := by decide +kernel
theorem dX0_keep_4 : decode cX0_keep 4 = .ok (.aload_n 0, 1) := by decide +kernel
theorem dX0_keep_5 : decode cX0_keep 5 = .ok (.getfield 22, 3) := by decide +kernel
theorem dX0_keep_8 : decode cX0_keep 8 = .ok (.aload_n 1, 1) := by decide +kernel
theorem dX0_keep_9 : decode cX0_keep 9 = .ok (.aastore, 1) := by decide +kernel
theorem dX0_keep_10 : decode cX0_keep 10 = .ok (.aload_n 1, 1) := by decide +kernel
theorem dX0_keep_11 : decode cX0_keep 11 = .ok (.getfield 29, 3) := by decide +kernel
theorem dX0_keep_14 : decode cX0_keep 14 = .ok (.iconst 0, 1) := by decide +kernel
theorem dX0_keep_15 : decode cX0_keep 15 = .ok (.aload_n 0, 1) := by decide +kernel
theorem dX0_keep_16 : decode cX0_keep 16 = .ok (.getfield 19, 3) := by decide +kernel
theorem dX0_keep_19 : decode cX0_keep 19 = .ok (.aload_n 0, 1) := by decide +kernel
theorem dX0_keep_20 : decode cX0_keep 20 = .ok (.getfield 22, 3) := by decide +kernel
theorem dX0_keep_23 : decode cX0_keep 23 = .ok (.aaload, 1) := by decide +kernel
theorem dX0_keep_24 : decode cX0_keep 24 = .ok (.iconst 0, 1) := by decide +kernel
theorem dX0_keep_25 : decode cX0_keep 25 = .ok (.aload_n 1, 1) := by decide +kernel
theorem dX0_keep_26 : decode cX0_keep 26 = .ok (.getfield 29, 3) := by decide +kernel
theorem dX0_keep_29 : decode cX0_keep 29 = .ok (.arraylength, 1) := by decide +kernel
theorem dX0_keep_30 : decode cX0_keep 30 = .ok (.invokestatic 33, 3) := by decide +kernel
theorem dX0_keep_33 : decode cX0_keep 33 = .ok (.aload_n 0, 1) := by decide +kernel
theorem dX0_keep_34 : decode cX0_keep 34 = .ok (.aload_n 0, 1) := by decide +kernel
theorem dX0_keep_35 : decode cX0_keep 35 = .ok (.getfield 22, 3) := by decide +kernel
theorem dX0_keep_38 : decode cX0_keep 38 = .ok (.iconst 1, 1) := by decide +kernel
theorem dX0_keep_39 : decode cX0_keep 39 = .ok (.iadd, 1) := by decide +kernel
theorem dX0_keep_40 : decode cX0_keep 40 = .ok (.bipush 24, 2) := by decide +kernel
theorem dX0_keep_42 : decode cX0_keep 42 = .ok (.irem, 1) := by decide +kernel
theorem dX0_keep_43 : decode cX0_keep 43 = .ok (.putfield 22, 3) := by decide +kernel
theorem dX0_keep_46 : decode cX0_keep 46 = .ok (.aload_n 0, 1) := by decide +kernel
theorem dX0_keep_47 : decode cX0_keep 47 = .ok (.aload_n 0, 1) := by decide +kernel
theorem dX0_keep_48 : decode cX0_keep 48 = .ok (.getfield 26, 3) := by decide +kernel
theorem dX0_keep_51 : decode cX0_keep 51 = .ok (.iconst 1, 1) := by decide +kernel
theorem dX0_keep_52 : decode cX0_keep 52 = .ok (.iadd, 1) := by decide +kernel
theorem dX0_keep_53 : decode cX0_keep 53 = .ok (.bipush 24, 2) := by decide +kernel
theorem dX0_keep_55 : decode cX0_keep 55 = .ok (.invokestatic 39, 3) := by decide +kernel
theorem dX0_keep_58 : decode cX0_keep 58 = .ok (.putfield 26, 3) := by decide +kernel
theorem dX0_keep_61 : decode cX0_keep 61 = .ok (.return_, 1) := by decide +kernel
theorem dX0_takeBack_0 : decode cX0_takeBack 0 = .ok (.aload_n 0, 1) := by decide +kernel
theorem dX0_takeBack_1 : decode cX0_takeBack 1 = .ok (.aload_n 0, 1) := by decide +kernel
theorem dX0_takeBack_2 : decode cX0_takeBack 2 = .ok (.getfield 22, 3) := by decide +kernel
theorem dX0_takeBack_5 : decode cX0_takeBack 5 = .ok (.bipush 24, 2) := by decide +kernel
theorem dX0_takeBack_7 : decode cX0_takeBack 7 = .ok (.iadd, 1) := by decide +kernel
theorem dX0_takeBack_8 : decode cX0_takeBack 8 = .ok (.iconst 1, 1) := by decide +kernel
theorem dX0_takeBack_9 : decode cX0_takeBack 9 = .ok (.isub, 1) := by decide +kernel
theorem dX0_takeBack_10 : decode cX0_takeBack 10 = .ok (.bipush 24, 2) := by decide +kernel
theorem dX0_takeBack_12 : decode cX0_takeBack 12 = .ok (.irem, 1) := by decide +kernel
theorem dX0_takeBack_13 : decode cX0_takeBack 13 = .ok (.putfield 22, 3) := by decide +kernel
theorem dX0_takeBack_16 : decode cX0_takeBack 16 = .ok (.aload_n 0, 1) := by decide +kernel
theorem dX0_takeBack_17 : decode cX0_takeBack 17 = .ok (.dup, 1) := by decide +kernel
theorem dX0_takeBack_18 : decode cX0_takeBack 18 = .ok (.getfield 26, 3) := by decide +kernel
theorem dX0_takeBack_21 : decode cX0_takeBack 21 = .ok (.iconst 1, 1) := by decide +kernel
theorem dX0_takeBack_22 : decode cX0_takeBack 22 = .ok (.isub, 1) := by decide +kernel
theorem dX0_takeBack_23 : decode cX0_takeBack 23 = .ok (.putfield 26, 3) := by decide +kernel
theorem dX0_takeBack_26 : decode cX0_takeBack 26 = .ok (.aload_n 0, 1) := by decide +kernel
theorem dX0_takeBack_27 : decode cX0_takeBack 27 = .ok (.getfield 11, 3) := by decide +kernel
theorem dX0_takeBack_30 : decode cX0_takeBack 30 = .ok (.aload_n 0, 1) := by decide +kernel
theorem dX0_takeBack_31 : decode cX0_takeBack 31 = .ok (.getfield 22, 3) := by decide +kernel
theorem dX0_takeBack_34 : decode cX0_takeBack 34 = .ok (.aaload, 1) := by decide +kernel
theorem dX0_takeBack_35 : decode cX0_takeBack 35 = .ok (.astore_n 1, 1) := by decide +kernel
theorem dX0_takeBack_36 : decode cX0_takeBack 36 = .ok (.aload_n 1, 1) := by decide +kernel
theorem dX0_takeBack_37 : decode cX0_takeBack 37 = .ok (.ifnull 16, 3) := by decide +kernel
theorem dX0_takeBack_40 : decode cX0_takeBack 40 = .ok (.aload_n 1, 1) := by decide +kernel
theorem dX0_takeBack_41 : decode cX0_takeBack 41 = .ok (.aload_n 0, 1) := by decide +kernel
theorem dX0_takeBack_42 : decode cX0_takeBack 42 = .ok (.getfield 19, 3) := by decide +kernel
theorem dX0_takeBack_45 : decode cX0_takeBack 45 = .ok (.aload_n 0, 1) := by decide +kernel
theorem dX0_takeBack_46 : decode cX0_takeBack 46 = .ok (.getfield 22, 3) := by decide +kernel
theorem dX0_takeBack_49 : decode cX0_takeBack 49 = .ok (.aaload, 1) := by decide +kernel
theorem dX0_takeBack_50 : decode cX0_takeBack 50 = .ok (.invokevirtual 45, 3) := by decide +kernel
theorem dX0_takeBack_53 : decode cX0_takeBack 53 = .ok (.return_, 1) := by decide +kernel
theorem dX0_forget_0 : decode cX0_forget 0 = .ok (.aload_n 0, 1) := by decide +kernel
theorem dX0_forget_1 : decode cX0_forget 1 = .ok (.iconst 0, 1) := by decide +kernel
theorem dX0_forget_2 : decode cX0_forget 2 = .ok (.putfield 26, 3) := by decide +kernel
theorem dX0_forget_5 : decode cX0_forget 5 = .ok (.return_, 1) := by decide +kernel
theorem dX1_init_0 : decode cX1_init 0 = .ok (.aload_n 0, 1) := by decide +kernel
theorem dX1_init_1 : decode cX1_init 1 = .ok (.invokespecial 3, 3) := by decide +kernel
theorem dX1_init_4 : decode cX1_init 4 = .ok (.aload_n 0, 1) := by decide +kernel
theorem dX1_init_5 : decode cX1_init 5 = .ok (.bipush 16, 2) := by decide +kernel
theorem dX1_init_7 : decode cX1_init 7 = .ok (.newarray .int, 2) := by decide +kernel
theorem dX1_init_9 : decode cX1_init 9 = .ok (.putfield 9, 3) := by decide +kernel
theorem dX1_init_12 : decode cX1_init 12 = .ok (.aload_n 0, 1) := by decide +kernel
theorem dX1_init_13 : decode cX1_init 13 = .ok (.iconst 0, 1) := by decide +kernel
theorem dX1_init_14 : decode cX1_init 14 = .ok (.putfield 15, 3) := by decide +kernel
theorem dX1_init_17 : decode cX1_init 17 = .ok (.return_, 1) := by decide +kernel
theorem dX1_answerAnew_0 : decode cX1_answerAnew 0 = .ok (.aload_n 0, 1) := by decide +kernel
theorem dX1_answerAnew_1 : decode cX1_answerAnew 1 = .ok (.iconst 0, 1) := by decide +kernel
theorem dX1_answerAnew_2 : decode cX1_answerAnew 2 = .ok (.putfield 15, 3) := by decide +kernel
theorem dX1_answerAnew_5 : decode cX1_answerAnew 5 = .ok (.aload_n 0, 1) := by decide +kernel
theorem dX1_answerAnew_6 : decode cX1_answerAnew 6 = .ok (.aload_n 1, 1) := by decide +kernel
theorem dX1_answerAnew_7 : decode cX1_answerAnew 7 = .ok (.iload_n 2, 1) := by decide +kernel
theorem dX1_answerAnew_8 : decode cX1_answerAnew 8 = .ok (.iconst 0, 1) := by decide +kernel
theorem dX1_answerAnew_9 : decode cX1_answerAnew 9 = .ok (.invokevirtual 19, 3) := by decide +kernel
theorem dX1_answerAnew_12 : decode cX1_answerAnew 12 = .ok (.ireturn, 1) := by decide +kernel
theorem dX1_leftAt_0 : decode cX1_leftAt 0 = .ok (.iload_n 1, 1) := by decide +kernel
theorem dX1_leftAt_1 : decode cX1_leftAt 1 = .ok (.iconst 0, 1) := by decide +kernel
theorem dX1_leftAt_2 : decode cX1_leftAt 2 = .ok (.aload_n 0, 1) := by decide +kernel
theorem dX1_leftAt_3 : decode cX1_leftAt 3 = .ok (.getfield 15, 3) := by decide +kernel
theorem dX1_leftAt_6 : decode cX1_leftAt 6 = .ok (.iconst 1, 1) := by decide +kernel
theorem dX1_leftAt_7 : decode cX1_leftAt 7 = .ok (.isub, 1) := by decide +kernel
theorem dX1_leftAt_8 : decode cX1_leftAt 8 = .ok (.invokestatic 23, 3) := by decide +kernel
theorem dX1_leftAt_11 : decode cX1_leftAt 11 = .ok (.ifCond .eq 12, 3) := by decide +kernel
theorem dX1_leftAt_14 : decode cX1_leftAt 14 = .ok (.aload_n 0, 1) := by decide +kernel
theorem dX1_leftAt_15 : decode cX1_leftAt 15 = .ok (.getfield 9, 3) := by decide +kernel
theorem dX1_leftAt_18 : decode cX1_leftAt 18 = .ok (.iload_n 1, 1) := by decide +kernel
theorem dX1_leftAt_19 : decode cX1_leftAt 19 = .ok (.iaload, 1) := by decide +kernel
theorem dX1_leftAt_20 : decode cX1_leftAt 20 = .ok (.goto 5, 3) := by decide +kernel
theorem dX1_leftAt_23 : decode cX1_leftAt 23 = .ok (.ldc 27, 2) := by decide +kernel
theorem dX1_leftAt_25 : decode cX1_leftAt 25 = .ok (.ireturn, 1) := by decide +kernel
theorem dX1_answer_0 : decode cX1_answer 0 = .ok (.aload_n 1, 1) := by decide +kernel
theorem dX1_answer_1 : decode cX1_answer 1 = .ok (.getfield 28, 3) := by decide +kernel
theorem dX1_answer_4 : decode cX1_answer 4 = .ok (.iconst 0, 1) := by decide +kernel
theorem dX1_answer_5 : decode cX1_answer 5 = .ok (.iconst 5, 1) := by decide +kernel
theorem dX1_answer_6 : decode cX1_answer 6 = .ok (.invokestatic 23, 3) := by decide +kernel
theorem dX1_answer_9 : decode cX1_answer 9 = .ok (.ifCond .ne 5, 3) := by decide +kernel
theorem dX1_answer_12 : decode cX1_answer 12 = .ok (.iconst 0, 1) := by decide +kernel
theorem dX1_answer_13 : decode cX1_answer 13 = .ok (.ireturn, 1) := by decide +kernel
theorem dX1_answer_14 : decode cX1_answer 14 = .ok (.aload_n 0, 1) := by decide +kernel
theorem dX1_answer_15 : decode cX1_answer 15 = .ok (.aload_n 1, 1) := by decide +kernel
theorem dX1_answer_16 : decode cX1_answer 16 = .ok (.iload_n 2, 1) := by decide +kernel
theorem dX1_answer_17 : decode cX1_answer 17 = .ok (.ifCond .ne 14, 3) := by decide +kernel
theorem dX1_answer_20 : decode cX1_answer 20 = .ok (.getstatic 33, 3) := by decide +kernel
theorem dX1_answer_23 : decode cX1_answer 23 = .ok (.aload_n 1, 1) := by decide +kernel
theorem dX1_answer_24 : decode cX1_answer 24 = .ok (.getfield 28, 3) := by decide +kernel
theorem dX1_answer_27 : decode cX1_answer 27 = .ok (.iaload, 1) := by decide +kernel
theorem dX1_answer_28 : decode cX1_answer 28 = .ok (.goto 11, 3) := by decide +kernel
theorem dX1_answer_31 : decode cX1_answer 31 = .ok (.getstatic 36, 3) := by decide +kernel
theorem dX1_answer_34 : decode cX1_answer 34 = .ok (.aload_n 1, 1) := by decide +kernel
theorem dX1_answer_35 : decode cX1_answer 35 = .ok (.getfield 28, 3) := by decide +kernel
theorem dX1_answer_38 : decode cX1_answer 38 = .ok (.iaload, 1) := by decide +kernel
theorem dX1_answer_39 : decode cX1_answer 39 = .ok (.iload_n 3, 1) := by decide +kernel
theorem dX1_answer_40 : decode cX1_answer 40 = .ok (.iconst 1, 1) := by decide +kernel
theorem dX1_answer_41 : decode cX1_answer 41 = .ok (.iadd, 1) := by decide +kernel
theorem dX1_answer_42 : decode cX1_answer 42 = .ok (.invokevirtual 39, 3) := by decide +kernel
theorem dX1_answer_45 : decode cX1_answer 45 = .ok (.ireturn, 1) := by decide +kernel
theorem dX1_body_0 : decode cX1_body 0 = .ok (.iload_n 3, 1) := by decide +kernel
theorem dX1_body_1 : decode cX1_body 1 = .ok (.bipush 12, 2) := by decide +kernel
theorem dX1_body_3 : decode cX1_body 3 = .ok (.if_icmp .le 5, 3) := by decide +kernel
theorem dX1_body_6 : decode cX1_body 6 = .ok (.iconst 0, 1) := by decide +kernel
theorem dX1_body_7 : decode cX1_body 7 = .ok (.ireturn, 1) := by decide +kernel
theorem dX1_body_8 : decode cX1_body 8 = .ok (.aload_n 0, 1) := by decide +kernel
theorem dX1_body_9 : decode cX1_body 9 = .ok (.iload_n 2, 1) := by decide +kernel
theorem dX1_body_10 : decode cX1_body 10 = .ok (.invokevirtual 42, 3) := by decide +kernel
theorem dX1_body_13 : decode cX1_body 13 = .ok (.iload_n 3, 1) := by decide +kernel
theorem dX1_body_14 : decode cX1_body 14 = .ok (.iconst 1, 1) := by decide +kernel
theorem dX1_body_15 : decode cX1_body 15 = .ok (.iadd, 1) := by decide +kernel
theorem dX1_body_16 : decode cX1_body 16 = .ok (.istore 4, 2) := by decide +kernel
theorem dX1_body_18 : decode cX1_body 18 = .ok (.iload_n 2, 1) := by decide +kernel
theorem dX1_body_19 : decode cX1_body 19 = .ok (.tableswitch 202 10 24 #[73, 78, 97, 108, 121, 202, 202, 202, 202, 202, 133, 138, 157, 171, 190], 73) := by decide +kernel
theorem dX1_body_92 : decode cX1_body 92 = .ok (.aload_n 1, 1) := by decide +kernel
theorem dX1_body_93 : decode cX1_body 93 = .ok (.invokevirtual 46, 3) := by decide +kernel
theorem dX1_body_96 : decode cX1_body 96 = .ok (.ireturn, 1) := by decide +kernel
theorem dX1_body_97 : decode cX1_body 97 = .ok (.aload_n 0, 1) := by decide +kernel
theorem dX1_body_98 : decode cX1_body 98 = .ok (.aload_n 1, 1) := by decide +kernel
theorem dX1_body_99 : decode cX1_body 99 = .ok (.bipush 10, 2) := by decide +kernel
theorem dX1_body_101 : decode cX1_body 101 = .ok (.iload 4, 2) := by decide +kernel
theorem dX1_body_103 : decode cX1_body 103 = .ok (.invokevirtual 39, 3) := by decide +kernel
theorem dX1_body_106 : decode cX1_body 106 = .ok (.aload_n 0, 1) := by decide +kernel
theorem dX1_body_107 : decode cX1_body 107 = .ok (.aload_n 1, 1) := by decide +kernel
theorem dX1_body_108 : decode cX1_body 108 = .ok (.iconst 1, 1) := by decide +kernel
theorem dX1_body_109 : decode cX1_body 109 = .ok (.iload 4, 2) := by decide +kernel
theorem dX1_body_111 : decode cX1_body 111 = .ok (.invokevirtual 19, 3) := by decide +kernel
theorem dX1_body_114 : decode cX1_body 114 = .ok (.iadd, 1) := by decide +kernel
theorem dX1_body_115 : decode cX1_body 115 = .ok (.ireturn, 1) := by decide +kernel
theorem dX1_body_116 : decode cX1_body 116 = .ok (.aload_n 0, 1) := by decide +kernel
theorem dX1_body_117 : decode cX1_body 117 = .ok (.aload_n 1, 1) := by decide +kernel
theorem dX1_body_118 : decode cX1_body 118 = .ok (.bipush 11, 2) := by decide +kernel
theorem dX1_body_120 : decode cX1_body 120 = .ok (.iload 4, 2) := by decide +kernel
theorem dX1_body_122 : decode cX1_body 122 = .ok (.invokevirtual 39, 3) := by decide +kernel
theorem dX1_body_125 : decode cX1_body 125 = .ok (.ineg, 1) := by decide +kernel
theorem dX1_body_126 : decode cX1_body 126 = .ok (.ireturn, 1) := by decide +kernel
theorem dX1_body_127 : decode cX1_body 127 = .ok (.aload_n 0, 1) := by decide +kernel
theorem dX1_body_128 : decode cX1_body 128 = .ok (.aload_n 1, 1) := by decide +kernel
theorem dX1_body_129 : decode cX1_body 129 = .ok (.bipush 10, 2) := by decide +kernel
theorem dX1_body_131 : decode cX1_body 131 = .ok (.iload 4, 2) := by decide +kernel
theorem dX1_body_133 : decode cX1_body 133 = .ok (.invokevirtual 39, 3) := by decide +kernel
theorem dX1_body_136 : decode cX1_body 136 = .ok (.bipush 100, 2) := by decide +kernel
theorem dX1_body_138 : decode cX1_body 138 = .ok (.isub, 1) := by decide +kernel
theorem dX1_body_139 : decode cX1_body 139 = .ok (.ireturn, 1) := by decide +kernel
theorem dX1_body_140 : decode cX1_body 140 = .ok (.iconst 2, 1) := by decide +kernel
theorem dX1_body_141 : decode cX1_body 141 = .ok (.aload_n 0, 1) := by decide +kernel
theorem dX1_body_142 : decode cX1_body 142 = .ok (.aload_n 1, 1) := by decide +kernel
theorem dX1_body_143 : decode cX1_body 143 = .ok (.bipush 13, 2) := by decide +kernel
theorem dX1_body_145 : decode cX1_body 145 = .ok (.iload 4, 2) := by decide +kernel
theorem dX1_body_147 : decode cX1_body 147 = .ok (.invokevirtual 39, 3) := by decide +kernel
theorem dX1_body_150 : decode cX1_body 150 = .ok (.imul, 1) := by decide +kernel
theorem dX1_body_151 : decode cX1_body 151 = .ok (.ireturn, 1) := by decide +kernel
theorem dX1_body_152 : decode cX1_body 152 = .ok (.aload_n 1, 1) := by decide +kernel
theorem dX1_body_153 : decode cX1_body 153 = .ok (.getfield 50, 3) := by decide +kernel
theorem dX1_body_156 : decode cX1_body 156 = .ok (.ireturn, 1) := by decide +kernel
theorem dX1_body_157 : decode cX1_body 157 = .ok (.aload_n 0, 1) := by decide +kernel
theorem dX1_body_158 : decode cX1_body 158 = .ok (.aload_n 1, 1) := by decide +kernel
theorem dX1_body_159 : decode cX1_body 159 = .ok (.bipush 20, 2) := by decide +kernel
theorem dX1_body_161 : decode cX1_body 161 = .ok (.iload 4, 2) := by decide +kernel
theorem dX1_body_163 : decode cX1_body 163 = .ok (.invokevirtual 39, 3) := by decide +kernel
theorem dX1_body_166 : decode cX1_body 166 = .ok (.aload_n 1, 1) := by decide +kernel
theorem dX1_body_167 : decode cX1_body 167 = .ok (.invokevirtual 53, 3) := by decide +kernel
theorem dX1_body_170 : decode cX1_body 170 = .ok (.iconst 0, 1) := by decide +kernel
theorem dX1_body_171 : decode cX1_body 171 = .ok (.invokestatic 56, 3) := by decide +kernel
theorem dX1_body_174 : decode cX1_body 174 = .ok (.iadd, 1) := by decide +kernel
theorem dX1_body_175 : decode cX1_body 175 = .ok (.ireturn, 1) := by decide +kernel
theorem dX1_body_176 : decode cX1_body 176 = .ok (.aload_n 0, 1) := by decide +kernel
theorem dX1_body_177 : decode cX1_body 177 = .ok (.aload_n 1, 1) := by decide +kernel
theorem dX1_body_178 : decode cX1_body 178 = .ok (.bipush 21, 2) := by decide +kernel
theorem dX1_body_180 : decode cX1_body 180 = .ok (.iload 4, 2) := by decide +kernel
theorem dX1_body_182 : decode cX1_body 182 = .ok (.invokevirtual 39, 3) := by decide +kernel
theorem dX1_body_185 : decode cX1_body 185 = .ok (.sipush 1000, 3) := by decide +kernel
theorem dX1_body_188 : decode cX1_body 188 = .ok (.isub, 1) := by decide +kernel
theorem dX1_body_189 : decode cX1_body 189 = .ok (.ireturn, 1) := by decide +kernel
theorem dX1_body_190 : decode cX1_body 190 = .ok (.aload_n 0, 1) := by decide +kernel
theorem dX1_body_191 : decode cX1_body 191 = .ok (.aload_n 1, 1) := by decide +kernel
theorem dX1_body_192 : decode cX1_body 192 = .ok (.bipush 20, 2) := by decide +kernel
theorem dX1_body_194 : decode cX1_body 194 = .ok (.iload 4, 2) := by decide +kernel
theorem dX1_body_196 : decode cX1_body 196 = .ok (.invokevirtual 39, 3) := by decide +kernel
theorem dX1_body_199 : decode cX1_body 199 = .ok (.aload_n 0, 1) := by decide +kernel
theorem dX1_body_200 : decode cX1_body 200 = .ok (.aload_n 1, 1) := by decide +kernel
theorem dX1_body_201 : decode cX1_body 201 = .ok (.iconst 0, 1) := by decide +kernel
theorem dX1_body_202 : decode cX1_body 202 = .ok (.iload 4, 2) := by decide +kernel
theorem dX1_body_204 : decode cX1_body 204 = .ok (.invokevirtual 19, 3) := by decide +kernel
theorem dX1_body_207 : decode cX1_body 207 = .ok (.isub, 1) := by decide +kernel
theorem dX1_body_208 : decode cX1_body 208 = .ok (.ireturn, 1) := by decide +kernel
theorem dX1_body_209 : decode cX1_body 209 = .ok (.iconst 2, 1) := by decide +kernel
theorem dX1_body_210 : decode cX1_body 210 = .ok (.aload_n 0, 1) := by decide +kernel
theorem dX1_body_211 : decode cX1_body 211 = .ok (.aload_n 1, 1) := by decide +kernel
theorem dX1_body_212 : decode cX1_body 212 = .ok (.bipush 21, 2) := by decide +kernel
theorem dX1_body_214 : decode cX1_body 214 = .ok (.iload 4, 2) := by decide +kernel
theorem dX1_body_216 : decode cX1_body 216 = .ok (.invokevirtual 39, 3) := by decide +kernel
theorem dX1_body_219 : decode cX1_body 219 = .ok (.imul, 1) := by decide +kernel
theorem dX1_body_220 : decode cX1_body 220 = .ok (.ireturn, 1) := by decide +kernel
theorem dX1_body_221 : decode cX1_body 221 = .ok (.iconst 0, 1) := by decide +kernel
theorem dX1_body_222 : decode cX1_body 222 = .ok (.ireturn, 1) := by decide +kernel
theorem dX1_leave_0 : decode cX1_leave 0 = .ok (.aload_n 0, 1) := by decide +kernel
theorem dX1_leave_1 : decode cX1_leave 1 = .ok (.getfield 15, 3) := by decide +kernel
theorem dX1_leave_4 : decode cX1_leave 4 = .ok (.bipush 16, 2) := by decide +kernel
theorem dX1_leave_6 : decode cX1_leave 6 = .ok (.if_icmp .ge 23, 3) := by decide +kernel
theorem dX1_leave_9 : decode cX1_leave 9 = .ok (.aload_n 0, 1) := by decide +kernel
theorem dX1_leave_10 : decode cX1_leave 10 = .ok (.getfield 9, 3) := by decide +kernel
theorem dX1_leave_13 : decode cX1_leave 13 = .ok (.aload_n 0, 1) := by decide +kernel
theorem dX1_leave_14 : decode cX1_leave 14 = .ok (.getfield 15, 3) := by decide +kernel
theorem dX1_leave_17 : decode cX1_leave 17 = .ok (.iload_n 1, 1) := by decide +kernel
theorem dX1_leave_18 : decode cX1_leave 18 = .ok (.iastore, 1) := by decide +kernel
theorem dX1_leave_19 : decode cX1_leave 19 = .ok (.aload_n 0, 1) := by decide +kernel
theorem dX1_leave_20 : decode cX1_leave 20 = .ok (.dup, 1) := by decide +kernel
theorem dX1_leave_21 : decode cX1_leave 21 = .ok (.getfield 15, 3) := by decide +kernel
theorem dX1_leave_24 : decode cX1_leave 24 = .ok (.iconst 1, 1) := by decide +kernel
theorem dX1_leave_25 : decode cX1_leave 25 = .ok (.iadd, 1) := by decide +kernel
theorem dX1_leave_26 : decode cX1_leave 26 = .ok (.putfield 15, 3) := by decide +kernel
theorem dX1_leave_29 : decode cX1_leave 29 = .ok (.return_, 1) := by decide +kernel
theorem dX3_lowOf_0 : decode cX3_lowOf 0 = .ok (.iload_n 0, 1) := by decide +kernel
theorem dX3_lowOf_1 : decode cX3_lowOf 1 = .ok (.iconst 2, 1) := by decide +kernel
theorem dX3_lowOf_2 : decode cX3_lowOf 2 = .ok (.idiv, 1) := by decide +kernel
theorem dX3_lowOf_3 : decode cX3_lowOf 3 = .ok (.ireturn, 1) := by decide +kernel
theorem dX3_highOf_0 : decode cX3_highOf 0 = .ok (.iload_n 0, 1) := by decide +kernel
theorem dX3_highOf_1 : decode cX3_highOf 1 = .ok (.iload_n 0, 1) := by decide +kernel
theorem dX3_highOf_2 : decode cX3_highOf 2 = .ok (.iconst 2, 1) := by decide +kernel
theorem dX3_highOf_3 : decode cX3_highOf 3 = .ok (.idiv, 1) := by decide +kernel
theorem dX3_highOf_4 : decode cX3_highOf 4 = .ok (.isub, 1) := by decide +kernel
theorem dX3_highOf_5 : decode cX3_highOf 5 = .ok (.ireturn, 1) := by decide +kernel
theorem dX3_leastOf_0 : decode cX3_leastOf 0 = .ok (.iload_n 0, 1) := by decide +kernel
theorem dX3_leastOf_1 : decode cX3_leastOf 1 = .ok (.ifCond .ne 8, 3) := by decide +kernel
theorem dX3_leastOf_4 : decode cX3_leastOf 4 = .ok (.ldc 9, 2) := by decide +kernel
theorem dX3_leastOf_6 : decode cX3_leastOf 6 = .ok (.goto 7, 3) := by decide +kernel
theorem dX3_leastOf_9 : decode cX3_leastOf 9 = .ok (.iload_n 0, 1) := by decide +kernel
theorem dX3_leastOf_10 : decode cX3_leastOf 10 = .ok (.invokestatic 10, 3) := by decide +kernel
theorem dX3_leastOf_13 : decode cX3_leastOf 13 = .ok (.ireturn, 1) := by decide +kernel
theorem dX3_greatestOf_0 : decode cX3_greatestOf 0 = .ok (.iload_n 0, 1) := by decide +kernel
theorem dX3_greatestOf_1 : decode cX3_greatestOf 1 = .ok (.ifCond .ne 8, 3) := by decide +kernel
theorem dX3_greatestOf_4 : decode cX3_greatestOf 4 = .ok (.ldc 9, 2) := by decide +kernel
theorem dX3_greatestOf_6 : decode cX3_greatestOf 6 = .ok (.goto 10, 3) := by decide +kernel
theorem dX3_greatestOf_9 : decode cX3_greatestOf 9 = .ok (.bipush 31, 2) := by decide +kernel
theorem dX3_greatestOf_11 : decode cX3_greatestOf 11 = .ok (.iload_n 0, 1) := by decide +kernel
theorem dX3_greatestOf_12 : decode cX3_greatestOf 12 = .ok (.invokestatic 16, 3) := by decide +kernel
theorem dX3_greatestOf_15 : decode cX3_greatestOf 15 = .ok (.isub, 1) := by decide +kernel
theorem dX3_greatestOf_16 : decode cX3_greatestOf 16 = .ok (.ireturn, 1) := by decide +kernel
theorem dX3_withoutLeast_0 : decode cX3_withoutLeast 0 = .ok (.iload_n 0, 1) := by decide +kernel
theorem dX3_withoutLeast_1 : decode cX3_withoutLeast 1 = .ok (.iload_n 0, 1) := by decide +kernel
theorem dX3_withoutLeast_2 : decode cX3_withoutLeast 2 = .ok (.iconst 1, 1) := by decide +kernel
theorem dX3_withoutLeast_3 : decode cX3_withoutLeast 3 = .ok (.isub, 1) := by decide +kernel
theorem dX3_withoutLeast_4 : decode cX3_withoutLeast 4 = .ok (.iand, 1) := by decide +kernel
theorem dX3_withoutLeast_5 : decode cX3_withoutLeast 5 = .ok (.ireturn, 1) := by decide +kernel
theorem dX3_clusterIn_0 : decode cX3_clusterIn 0 = .ok (.iload_n 2, 1) := by decide +kernel
theorem dX3_clusterIn_1 : decode cX3_clusterIn 1 = .ok (.iload_n 1, 1) := by decide +kernel
theorem dX3_clusterIn_2 : decode cX3_clusterIn 2 = .ok (.ishl, 1) := by decide +kernel
theorem dX3_clusterIn_3 : decode cX3_clusterIn 3 = .ok (.bipush 32, 2) := by decide +kernel
theorem dX3_clusterIn_5 : decode cX3_clusterIn 5 = .ok (.irem, 1) := by decide +kernel
theorem dX3_clusterIn_6 : decode cX3_clusterIn 6 = .ok (.istore_n 3, 1) := by decide +kernel
theorem dX3_clusterIn_7 : decode cX3_clusterIn 7 = .ok (.iload_n 0, 1) := by decide +kernel
theorem dX3_clusterIn_8 : decode cX3_clusterIn 8 = .ok (.iload_n 3, 1) := by decide +kernel
theorem dX3_clusterIn_9 : decode cX3_clusterIn 9 = .ok (.iushr, 1) := by decide +kernel
theorem dX3_clusterIn_10 : decode cX3_clusterIn 10 = .ok (.iconst (-1), 1) := by decide +kernel
theorem dX3_clusterIn_11 : decode cX3_clusterIn 11 = .ok (.bipush 32, 2) := by decide +kernel
theorem dX3_clusterIn_13 : decode cX3_clusterIn 13 = .ok (.iconst 1, 1) := by decide +kernel
theorem dX3_clusterIn_14 : decode cX3_clusterIn 14 = .ok (.iload_n 1, 1) := by decide +kernel
theorem dX3_clusterIn_15 : decode cX3_clusterIn 15 = .ok (.ishl, 1) := by decide +kernel
theorem dX3_clusterIn_16 : decode cX3_clusterIn 16 = .ok (.isub, 1) := by decide +kernel
theorem dX3_clusterIn_17 : decode cX3_clusterIn 17 = .ok (.iushr, 1) := by decide +kernel
theorem dX3_clusterIn_18 : decode cX3_clusterIn 18 = .ok (.iand, 1) := by decide +kernel
theorem dX3_clusterIn_19 : decode cX3_clusterIn 19 = .ok (.ireturn, 1) := by decide +kernel
theorem dX3_summaryIn_0 : decode cX3_summaryIn 0 = .ok (.iconst 0, 1) := by decide +kernel
theorem dX3_summaryIn_1 : decode cX3_summaryIn 1 = .ok (.istore_n 2, 1) := by decide +kernel
theorem dX3_summaryIn_2 : decode cX3_summaryIn 2 = .ok (.iconst 0, 1) := by decide +kernel
theorem dX3_summaryIn_3 : decode cX3_summaryIn 3 = .ok (.istore_n 3, 1) := by decide +kernel
theorem dX3_summaryIn_4 : decode cX3_summaryIn 4 = .ok (.iload_n 3, 1) := by decide +kernel
theorem dX3_summaryIn_5 : decode cX3_summaryIn 5 = .ok (.iconst 1, 1) := by decide +kernel
theorem dX3_summaryIn_6 : decode cX3_summaryIn 6 = .ok (.iload_n 1, 1) := by decide +kernel
theorem dX3_summaryIn_7 : decode cX3_summaryIn 7 = .ok (.invokestatic 19, 3) := by decide +kernel
theorem dX3_summaryIn_10 : decode cX3_summaryIn 10 = .ok (.ishl, 1) := by decide +kernel
theorem dX3_summaryIn_11 : decode cX3_summaryIn 11 = .ok (.if_icmp .ge 31, 3) := by decide +kernel
theorem dX3_summaryIn_14 : decode cX3_summaryIn 14 = .ok (.iload_n 2, 1) := by decide +kernel
theorem dX3_summaryIn_15 : decode cX3_summaryIn 15 = .ok (.iload_n 0, 1) := by decide +kernel
theorem dX3_summaryIn_16 : decode cX3_summaryIn 16 = .ok (.iload_n 1, 1) := by decide +kernel
theorem dX3_summaryIn_17 : decode cX3_summaryIn 17 = .ok (.invokestatic 24, 3) := by decide +kernel
theorem dX3_summaryIn_20 : decode cX3_summaryIn 20 = .ok (.iload_n 3, 1) := by decide +kernel
theorem dX3_summaryIn_21 : decode cX3_summaryIn 21 = .ok (.invokestatic 27, 3) := by decide +kernel
theorem dX3_summaryIn_24 : decode cX3_summaryIn 24 = .ok (.ifCond .ne 7, 3) := by decide +kernel
theorem dX3_summaryIn_27 : decode cX3_summaryIn 27 = .ok (.iconst 0, 1) := by decide +kernel
theorem dX3_summaryIn_28 : decode cX3_summaryIn 28 = .ok (.goto 6, 3) := by decide +kernel
theorem dX3_summaryIn_31 : decode cX3_summaryIn 31 = .ok (.iconst 1, 1) := by decide +kernel
theorem dX3_summaryIn_32 : decode cX3_summaryIn 32 = .ok (.iload_n 3, 1) := by decide +kernel
theorem dX3_summaryIn_33 : decode cX3_summaryIn 33 = .ok (.ishl, 1) := by decide +kernel
theorem dX3_summaryIn_34 : decode cX3_summaryIn 34 = .ok (.ior, 1) := by decide +kernel
theorem dX3_summaryIn_35 : decode cX3_summaryIn 35 = .ok (.istore_n 2, 1) := by decide +kernel
theorem dX3_summaryIn_36 : decode cX3_summaryIn 36 = .ok (.iinc 3 1, 3) := by decide +kernel
theorem dX3_summaryIn_39 : decode cX3_summaryIn 39 = .ok (.goto (-35), 3) := by decide +kernel
theorem dX3_summaryIn_42 : decode cX3_summaryIn 42 = .ok (.iload_n 2, 1) := by decide +kernel
theorem dX3_summaryIn_43 : decode cX3_summaryIn 43 = .ok (.ireturn, 1) := by decide +kernel
theorem dX3_about_0 : decode cX3_about 0 = .ok (.iload_n 2, 1) := by decide +kernel
theorem dX3_about_1 : decode cX3_about 1 = .ok (.iconst 2, 1) := by decide +kernel
theorem dX3_about_2 : decode cX3_about 2 = .ok (.if_icmp .ne 9, 3) := by decide +kernel
theorem dX3_about_5 : decode cX3_about 5 = .ok (.iload_n 0, 1) := by decide +kernel
theorem dX3_about_6 : decode cX3_about 6 = .ok (.iload_n 1, 1) := by decide +kernel
theorem dX3_about_7 : decode cX3_about 7 = .ok (.invokestatic 31, 3) := by decide +kernel
theorem dX3_about_10 : decode cX3_about 10 = .ok (.ireturn, 1) := by decide +kernel
theorem dX3_about_11 : decode cX3_about 11 = .ok (.iload_n 2, 1) := by decide +kernel
theorem dX3_about_12 : decode cX3_about 12 = .ok (.ifCond .ne 10, 3) := by decide +kernel
theorem dX3_about_15 : decode cX3_about 15 = .ok (.iload_n 0, 1) := by decide +kernel
theorem dX3_about_16 : decode cX3_about 16 = .ok (.invokestatic 35, 3) := by decide +kernel
theorem dX3_about_19 : decode cX3_about 19 = .ok (.goto 7, 3) := by decide +kernel
theorem dX3_about_22 : decode cX3_about 22 = .ok (.iload_n 0, 1) := by decide +kernel
theorem dX3_about_23 : decode cX3_about 23 = .ok (.invokestatic 38, 3) := by decide +kernel
theorem dX3_about_26 : decode cX3_about 26 = .ok (.ireturn, 1) := by decide +kernel
theorem dX3_nodesOf_0 : decode cX3_nodesOf 0 = .ok (.iload_n 0, 1) := by decide +kernel
theorem dX3_nodesOf_1 : decode cX3_nodesOf 1 = .ok (.ifCond .eq 8, 3) := by decide +kernel
theorem dX3_nodesOf_4 : decode cX3_nodesOf 4 = .ok (.iload_n 1, 1) := by decide +kernel
theorem dX3_nodesOf_5 : decode cX3_nodesOf 5 = .ok (.iconst 2, 1) := by decide +kernel
theorem dX3_nodesOf_6 : decode cX3_nodesOf 6 = .ok (.if_icmp .ge 13, 3) := by decide +kernel
theorem dX3_nodesOf_9 : decode cX3_nodesOf 9 = .ok (.iload_n 0, 1) := by decide +kernel
theorem dX3_nodesOf_10 : decode cX3_nodesOf 10 = .ok (.ifCond .ne 7, 3) := by decide +kernel
theorem dX3_nodesOf_13 : decode cX3_nodesOf 13 = .ok (.iconst 0, 1) := by decide +kernel
theorem dX3_nodesOf_14 : decode cX3_nodesOf 14 = .ok (.goto 4, 3) := by decide +kernel
theorem dX3_nodesOf_17 : decode cX3_nodesOf 17 = .ok (.iconst 1, 1) := by decide +kernel
theorem dX3_nodesOf_18 : decode cX3_nodesOf 18 = .ok (.ireturn, 1) := by decide +kernel
theorem dX3_nodesOf_19 : decode cX3_nodesOf 19 = .ok (.iload_n 0, 1) := by decide +kernel
theorem dX3_nodesOf_20 : decode cX3_nodesOf 20 = .ok (.invokestatic 41, 3) := by decide +kernel
theorem dX3_nodesOf_23 : decode cX3_nodesOf 23 = .ok (.istore_n 2, 1) := by decide +kernel
theorem dX3_nodesOf_24 : decode cX3_nodesOf 24 = .ok (.iconst 1, 1) := by decide +kernel
theorem dX3_nodesOf_25 : decode cX3_nodesOf 25 = .ok (.iload_n 2, 1) := by decide +kernel
theorem dX3_nodesOf_26 : decode cX3_nodesOf 26 = .ok (.iload_n 1, 1) := by decide +kernel
theorem dX3_nodesOf_27 : decode cX3_nodesOf 27 = .ok (.invokestatic 44, 3) := by decide +kernel
theorem dX3_nodesOf_30 : decode cX3_nodesOf 30 = .ok (.iload_n 1, 1) := by decide +kernel
theorem dX3_nodesOf_31 : decode cX3_nodesOf 31 = .ok (.invokestatic 19, 3) := by decide +kernel
theorem dX3_nodesOf_34 : decode cX3_nodesOf 34 = .ok (.invokestatic 31, 3) := by decide +kernel
theorem dX3_nodesOf_37 : decode cX3_nodesOf 37 = .ok (.iadd, 1) := by decide +kernel
theorem dX3_nodesOf_38 : decode cX3_nodesOf 38 = .ok (.istore_n 3, 1) := by decide +kernel
theorem dX3_nodesOf_39 : decode cX3_nodesOf 39 = .ok (.iconst 0, 1) := by decide +kernel
theorem dX3_nodesOf_40 : decode cX3_nodesOf 40 = .ok (.istore 4, 2) := by decide +kernel
theorem dX3_nodesOf_42 : decode cX3_nodesOf 42 = .ok (.iload 4, 2) := by decide +kernel
theorem dX3_nodesOf_44 : decode cX3_nodesOf 44 = .ok (.iconst 1, 1) := by decide +kernel
theorem dX3_nodesOf_45 : decode cX3_nodesOf 45 = .ok (.iload_n 1, 1) := by decide +kernel
theorem dX3_nodesOf_46 : decode cX3_nodesOf 46 = .ok (.invokestatic 19, 3) := by decide +kernel
theorem dX3_nodesOf_49 : decode cX3_nodesOf 49 = .ok (.ishl, 1) := by decide +kernel
theorem dX3_nodesOf_50 : decode cX3_nodesOf 50 = .ok (.if_icmp .ge 29, 3) := by decide +kernel
theorem dX3_nodesOf_53 : decode cX3_nodesOf 53 = .ok (.iload_n 3, 1) := by decide +kernel
theorem dX3_nodesOf_54 : decode cX3_nodesOf 54 = .ok (.iload_n 2, 1) := by decide +kernel
theorem dX3_nodesOf_55 : decode cX3_nodesOf 55 = .ok (.iload_n 1, 1) := by decide +kernel
theorem dX3_nodesOf_56 : decode cX3_nodesOf 56 = .ok (.invokestatic 24, 3) := by decide +kernel
theorem dX3_nodesOf_59 : decode cX3_nodesOf 59 = .ok (.iload 4, 2) := by decide +kernel
theorem dX3_nodesOf_61 : decode cX3_nodesOf 61 = .ok (.invokestatic 27, 3) := by decide +kernel
theorem dX3_nodesOf_64 : decode cX3_nodesOf 64 = .ok (.iload_n 1, 1) := by decide +kernel
theorem dX3_nodesOf_65 : decode cX3_nodesOf 65 = .ok (.invokestatic 24, 3) := by decide +kernel
theorem dX3_nodesOf_68 : decode cX3_nodesOf 68 = .ok (.invokestatic 31, 3) := by decide +kernel
theorem dX3_nodesOf_71 : decode cX3_nodesOf 71 = .ok (.iadd, 1) := by decide +kernel
theorem dX3_nodesOf_72 : decode cX3_nodesOf 72 = .ok (.istore_n 3, 1) := by decide +kernel
theorem dX3_nodesOf_73 : decode cX3_nodesOf 73 = .ok (.iinc 4 1, 3) := by decide +kernel
theorem dX3_nodesOf_76 : decode cX3_nodesOf 76 = .ok (.goto (-34), 3) := by decide +kernel
theorem dX3_nodesOf_79 : decode cX3_nodesOf 79 = .ok (.iload_n 3, 1) := by decide +kernel
theorem dX3_nodesOf_80 : decode cX3_nodesOf 80 = .ok (.ireturn, 1) := by decide +kernel
theorem dX3_depthOf_0 : decode cX3_depthOf 0 = .ok (.iload_n 0, 1) := by decide +kernel
theorem dX3_depthOf_1 : decode cX3_depthOf 1 = .ok (.ifCond .eq 8, 3) := by decide +kernel
theorem dX3_depthOf_4 : decode cX3_depthOf 4 = .ok (.iload_n 1, 1) := by decide +kernel
theorem dX3_depthOf_5 : decode cX3_depthOf 5 = .ok (.iconst 2, 1) := by decide +kernel
theorem dX3_depthOf_6 : decode cX3_depthOf 6 = .ok (.if_icmp .ge 13, 3) := by decide +kernel
theorem dX3_depthOf_9 : decode cX3_depthOf 9 = .ok (.iload_n 0, 1) := by decide +kernel
theorem dX3_depthOf_10 : decode cX3_depthOf 10 = .ok (.ifCond .ne 7, 3) := by decide +kernel
theorem dX3_depthOf_13 : decode cX3_depthOf 13 = .ok (.iconst 0, 1) := by decide +kernel
theorem dX3_depthOf_14 : decode cX3_depthOf 14 = .ok (.goto 4, 3) := by decide +kernel
theorem dX3_depthOf_17 : decode cX3_depthOf 17 = .ok (.iconst 1, 1) := by decide +kernel
theorem dX3_depthOf_18 : decode cX3_depthOf 18 = .ok (.ireturn, 1) := by decide +kernel
theorem dX3_depthOf_19 : decode cX3_depthOf 19 = .ok (.iload_n 0, 1) := by decide +kernel
theorem dX3_depthOf_20 : decode cX3_depthOf 20 = .ok (.invokestatic 41, 3) := by decide +kernel
theorem dX3_depthOf_23 : decode cX3_depthOf 23 = .ok (.istore_n 2, 1) := by decide +kernel
theorem dX3_depthOf_24 : decode cX3_depthOf 24 = .ok (.iload_n 2, 1) := by decide +kernel
theorem dX3_depthOf_25 : decode cX3_depthOf 25 = .ok (.iload_n 1, 1) := by decide +kernel
theorem dX3_depthOf_26 : decode cX3_depthOf 26 = .ok (.invokestatic 44, 3) := by decide +kernel
theorem dX3_depthOf_29 : decode cX3_depthOf 29 = .ok (.iload_n 1, 1) := by decide +kernel
theorem dX3_depthOf_30 : decode cX3_depthOf 30 = .ok (.invokestatic 19, 3) := by decide +kernel
theorem dX3_depthOf_33 : decode cX3_depthOf 33 = .ok (.invokestatic 47, 3) := by decide +kernel
theorem dX3_depthOf_36 : decode cX3_depthOf 36 = .ok (.istore_n 3, 1) := by decide +kernel
theorem dX3_depthOf_37 : decode cX3_depthOf 37 = .ok (.iconst 0, 1) := by decide +kernel
theorem dX3_depthOf_38 : decode cX3_depthOf 38 = .ok (.istore 4, 2) := by decide +kernel
theorem dX3_depthOf_40 : decode cX3_depthOf 40 = .ok (.iload 4, 2) := by decide +kernel
theorem dX3_depthOf_42 : decode cX3_depthOf 42 = .ok (.iconst 1, 1) := by decide +kernel
theorem dX3_depthOf_43 : decode cX3_depthOf 43 = .ok (.iload_n 1, 1) := by decide +kernel
theorem dX3_depthOf_44 : decode cX3_depthOf 44 = .ok (.invokestatic 19, 3) := by decide +kernel
theorem dX3_depthOf_47 : decode cX3_depthOf 47 = .ok (.ishl, 1) := by decide +kernel
theorem dX3_depthOf_48 : decode cX3_depthOf 48 = .ok (.if_icmp .ge 31, 3) := by decide +kernel
theorem dX3_depthOf_51 : decode cX3_depthOf 51 = .ok (.iload_n 3, 1) := by decide +kernel
theorem dX3_depthOf_52 : decode cX3_depthOf 52 = .ok (.iload_n 2, 1) := by decide +kernel
theorem dX3_depthOf_53 : decode cX3_depthOf 53 = .ok (.iload_n 1, 1) := by decide +kernel
theorem dX3_depthOf_54 : decode cX3_depthOf 54 = .ok (.invokestatic 24, 3) := by decide +kernel
theorem dX3_depthOf_57 : decode cX3_depthOf 57 = .ok (.iload 4, 2) := by decide +kernel
theorem dX3_depthOf_59 : decode cX3_depthOf 59 = .ok (.invokestatic 27, 3) := by decide +kernel
theorem dX3_depthOf_62 : decode cX3_depthOf 62 = .ok (.iload_n 1, 1) := by decide +kernel
theorem dX3_depthOf_63 : decode cX3_depthOf 63 = .ok (.invokestatic 24, 3) := by decide +kernel
theorem dX3_depthOf_66 : decode cX3_depthOf 66 = .ok (.invokestatic 47, 3) := by decide +kernel
theorem dX3_depthOf_69 : decode cX3_depthOf 69 = .ok (.invokestatic 50, 3) := by decide +kernel
theorem dX3_depthOf_72 : decode cX3_depthOf 72 = .ok (.istore_n 3, 1) := by decide +kernel
theorem dX3_depthOf_73 : decode cX3_depthOf 73 = .ok (.iinc 4 1, 3) := by decide +kernel
theorem dX3_depthOf_76 : decode cX3_depthOf 76 = .ok (.goto (-36), 3) := by decide +kernel
theorem dX3_depthOf_79 : decode cX3_depthOf 79 = .ok (.iconst 1, 1) := by decide +kernel
theorem dX3_depthOf_80 : decode cX3_depthOf 80 = .ok (.iload_n 3, 1) := by decide +kernel
theorem dX3_depthOf_81 : decode cX3_depthOf 81 = .ok (.iadd, 1) := by decide +kernel
theorem dX3_depthOf_82 : decode cX3_depthOf 82 = .ok (.ireturn, 1) := by decide +kernel
theorem dX3_stepsAbove_0 : decode cX3_stepsAbove 0 = .ok (.iload_n 0, 1) := by decide +kernel
theorem dX3_stepsAbove_1 : decode cX3_stepsAbove 1 = .ok (.ifCond .eq 16, 3) := by decide +kernel
theorem dX3_stepsAbove_4 : decode cX3_stepsAbove 4 = .ok (.iload_n 1, 1) := by decide +kernel
theorem dX3_stepsAbove_5 : decode cX3_stepsAbove 5 = .ok (.iconst 2, 1) := by decide +kernel
theorem dX3_stepsAbove_6 : decode cX3_stepsAbove 6 = .ok (.if_icmp .lt 11, 3) := by decide +kernel
theorem dX3_stepsAbove_9 : decode cX3_stepsAbove 9 = .ok (.iload_n 2, 1) := by decide +kernel
theorem dX3_stepsAbove_10 : decode cX3_stepsAbove 10 = .ok (.iload_n 0, 1) := by decide +kernel
theorem dX3_stepsAbove_11 : decode cX3_stepsAbove 11 = .ok (.invokestatic 35, 3) := by decide +kernel
theorem dX3_stepsAbove_14 : decode cX3_stepsAbove 14 = .ok (.if_icmp .ge 5, 3) := by decide +kernel
theorem dX3_stepsAbove_17 : decode cX3_stepsAbove 17 = .ok (.iconst 1, 1) := by decide +kernel
theorem dX3_stepsAbove_18 : decode cX3_stepsAbove 18 = .ok (.ireturn, 1) := by decide +kernel
theorem dX3_stepsAbove_19 : decode cX3_stepsAbove 19 = .ok (.iload_n 0, 1) := by decide +kernel
theorem dX3_stepsAbove_20 : decode cX3_stepsAbove 20 = .ok (.invokestatic 41, 3) := by decide +kernel
theorem dX3_stepsAbove_23 : decode cX3_stepsAbove 23 = .ok (.istore_n 3, 1) := by decide +kernel
theorem dX3_stepsAbove_24 : decode cX3_stepsAbove 24 = .ok (.iload_n 2, 1) := by decide +kernel
theorem dX3_stepsAbove_25 : decode cX3_stepsAbove 25 = .ok (.iload_n 1, 1) := by decide +kernel
theorem dX3_stepsAbove_26 : decode cX3_stepsAbove 26 = .ok (.invokestatic 24, 3) := by decide +kernel
theorem dX3_stepsAbove_29 : decode cX3_stepsAbove 29 = .ok (.ishr, 1) := by decide +kernel
theorem dX3_stepsAbove_30 : decode cX3_stepsAbove 30 = .ok (.istore 4, 2) := by decide +kernel
theorem dX3_stepsAbove_32 : decode cX3_stepsAbove 32 = .ok (.iload_n 2, 1) := by decide +kernel
theorem dX3_stepsAbove_33 : decode cX3_stepsAbove 33 = .ok (.iload 4, 2) := by decide +kernel
theorem dX3_stepsAbove_35 : decode cX3_stepsAbove 35 = .ok (.iload_n 1, 1) := by decide +kernel
theorem dX3_stepsAbove_36 : decode cX3_stepsAbove 36 = .ok (.invokestatic 24, 3) := by decide +kernel
theorem dX3_stepsAbove_39 : decode cX3_stepsAbove 39 = .ok (.ishl, 1) := by decide +kernel
theorem dX3_stepsAbove_40 : decode cX3_stepsAbove 40 = .ok (.isub, 1) := by decide +kernel
theorem dX3_stepsAbove_41 : decode cX3_stepsAbove 41 = .ok (.istore 5, 2) := by decide +kernel
theorem dX3_stepsAbove_43 : decode cX3_stepsAbove 43 = .ok (.iload_n 3, 1) := by decide +kernel
theorem dX3_stepsAbove_44 : decode cX3_stepsAbove 44 = .ok (.iload_n 1, 1) := by decide +kernel
theorem dX3_stepsAbove_45 : decode cX3_stepsAbove 45 = .ok (.invokestatic 24, 3) := by decide +kernel
theorem dX3_stepsAbove_48 : decode cX3_stepsAbove 48 = .ok (.iload 4, 2) := by decide +kernel
theorem dX3_stepsAbove_50 : decode cX3_stepsAbove 50 = .ok (.invokestatic 27, 3) := by decide +kernel
theorem dX3_stepsAbove_53 : decode cX3_stepsAbove 53 = .ok (.istore 6, 2) := by decide +kernel
theorem dX3_stepsAbove_55 : decode cX3_stepsAbove 55 = .ok (.iload 6, 2) := by decide +kernel
theorem dX3_stepsAbove_57 : decode cX3_stepsAbove 57 = .ok (.ifCond .eq 27, 3) := by decide +kernel
theorem dX3_stepsAbove_60 : decode cX3_stepsAbove 60 = .ok (.iload 6, 2) := by decide +kernel
theorem dX3_stepsAbove_62 : decode cX3_stepsAbove 62 = .ok (.invokestatic 38, 3) := by decide +kernel
theorem dX3_stepsAbove_65 : decode cX3_stepsAbove 65 = .ok (.iload 5, 2) := by decide +kernel
theorem dX3_stepsAbove_67 : decode cX3_stepsAbove 67 = .ok (.if_icmp .le 17, 3) := by decide +kernel
theorem dX3_stepsAbove_70 : decode cX3_stepsAbove 70 = .ok (.iconst 1, 1) := by decide +kernel
theorem dX3_stepsAbove_71 : decode cX3_stepsAbove 71 = .ok (.iload 6, 2) := by decide +kernel
theorem dX3_stepsAbove_73 : decode cX3_stepsAbove 73 = .ok (.iload_n 1, 1) := by decide +kernel
theorem dX3_stepsAbove_74 : decode cX3_stepsAbove 74 = .ok (.invokestatic 24, 3) := by decide +kernel
theorem dX3_stepsAbove_77 : decode cX3_stepsAbove 77 = .ok (.iload 5, 2) := by decide +kernel
theorem dX3_stepsAbove_79 : decode cX3_stepsAbove 79 = .ok (.invokestatic 55, 3) := by decide +kernel
theorem dX3_stepsAbove_82 : decode cX3_stepsAbove 82 = .ok (.iadd, 1) := by decide +kernel
theorem dX3_stepsAbove_83 : decode cX3_stepsAbove 83 = .ok (.ireturn, 1) := by decide +kernel
theorem dX3_stepsAbove_84 : decode cX3_stepsAbove 84 = .ok (.iconst 1, 1) := by decide +kernel
theorem dX3_stepsAbove_85 : decode cX3_stepsAbove 85 = .ok (.iload_n 3, 1) := by decide +kernel
theorem dX3_stepsAbove_86 : decode cX3_stepsAbove 86 = .ok (.iload_n 1, 1) := by decide +kernel
theorem dX3_stepsAbove_87 : decode cX3_stepsAbove 87 = .ok (.invokestatic 44, 3) := by decide +kernel
theorem dX3_stepsAbove_90 : decode cX3_stepsAbove 90 = .ok (.iload_n 1, 1) := by decide +kernel
theorem dX3_stepsAbove_91 : decode cX3_stepsAbove 91 = .ok (.invokestatic 19, 3) := by decide +kernel
theorem dX3_stepsAbove_94 : decode cX3_stepsAbove 94 = .ok (.iload 4, 2) := by decide +kernel
theorem dX3_stepsAbove_96 : decode cX3_stepsAbove 96 = .ok (.invokestatic 55, 3) := by decide +kernel
theorem dX3_stepsAbove_99 : decode cX3_stepsAbove 99 = .ok (.iadd, 1) := by decide +kernel
theorem dX3_stepsAbove_100 : decode cX3_stepsAbove 100 = .ok (.ireturn, 1) := by decide +kernel
theorem dX4_init_0 : decode cX4_init 0 = .ok (.aload_n 0, 1) := by decide +kernel
theorem dX4_init_1 : decode cX4_init 1 = .ok (.invokespecial 1, 3) := by decide +kernel
theorem dX4_init_4 : decode cX4_init 4 = .ok (.aload_n 0, 1) := by decide +kernel
theorem dX4_init_5 : decode cX4_init 5 = .ok (.iload_n 1, 1) := by decide +kernel
theorem dX4_init_6 : decode cX4_init 6 = .ok (.putfield 7, 3) := by decide +kernel
theorem dX4_init_9 : decode cX4_init 9 = .ok (.aload_n 0, 1) := by decide +kernel
theorem dX4_init_10 : decode cX4_init 10 = .ok (.iload_n 2, 1) := by decide +kernel
theorem dX4_init_11 : decode cX4_init 11 = .ok (.newarray .int, 2) := by decide +kernel
theorem dX4_init_13 : decode cX4_init 13 = .ok (.putfield 13, 3) := by decide +kernel
theorem dX4_init_16 : decode cX4_init 16 = .ok (.return_, 1) := by decide +kernel
theorem dX4_spans_0 : decode cX4_spans 0 = .ok (.iload_n 1, 1) := by decide +kernel
theorem dX4_spans_1 : decode cX4_spans 1 = .ok (.ifCond .lt 22, 3) := by decide +kernel
theorem dX4_spans_4 : decode cX4_spans 4 = .ok (.iload_n 2, 1) := by decide +kernel
theorem dX4_spans_5 : decode cX4_spans 5 = .ok (.ifCond .lt 18, 3) := by decide +kernel
theorem dX4_spans_8 : decode cX4_spans 8 = .ok (.iload_n 1, 1) := by decide +kernel
theorem dX4_spans_9 : decode cX4_spans 9 = .ok (.aload_n 0, 1) := by decide +kernel
theorem dX4_spans_10 : decode cX4_spans 10 = .ok (.getfield 13, 3) := by decide +kernel
theorem dX4_spans_13 : decode cX4_spans 13 = .ok (.arraylength, 1) := by decide +kernel
theorem dX4_spans_14 : decode cX4_spans 14 = .ok (.iload_n 2, 1) := by decide +kernel
theorem dX4_spans_15 : decode cX4_spans 15 = .ok (.isub, 1) := by decide +kernel
theorem dX4_spans_16 : decode cX4_spans 16 = .ok (.if_icmp .gt 7, 3) := by decide +kernel
theorem dX4_spans_19 : decode cX4_spans 19 = .ok (.iconst 1, 1) := by decide +kernel
theorem dX4_spans_20 : decode cX4_spans 20 = .ok (.goto 4, 3) := by decide +kernel
theorem dX4_spans_23 : decode cX4_spans 23 = .ok (.iconst 0, 1) := by decide +kernel
theorem dX4_spans_24 : decode cX4_spans 24 = .ok (.ireturn, 1) := by decide +kernel
theorem dX4_store_0 : decode cX4_store 0 = .ok (.aload_n 0, 1) := by decide +kernel
theorem dX4_store_1 : decode cX4_store 1 = .ok (.getfield 7, 3) := by decide +kernel
theorem dX4_store_4 : decode cX4_store 4 = .ok (.ifCond .ne 8, 3) := by decide +kernel
theorem dX4_store_7 : decode cX4_store 7 = .ok (.iload_n 2, 1) := by decide +kernel
theorem dX4_store_8 : decode cX4_store 8 = .ok (.i2b, 1) := by decide +kernel
theorem dX4_store_9 : decode cX4_store 9 = .ok (.goto 17, 3) := by decide +kernel
theorem dX4_store_12 : decode cX4_store 12 = .ok (.aload_n 0, 1) := by decide +kernel
theorem dX4_store_13 : decode cX4_store 13 = .ok (.getfield 7, 3) := by decide +kernel
theorem dX4_store_16 : decode cX4_store 16 = .ok (.iconst 1, 1) := by decide +kernel
theorem dX4_store_17 : decode cX4_store 17 = .ok (.if_icmp .ne 8, 3) := by decide +kernel
theorem dX4_store_20 : decode cX4_store 20 = .ok (.iload_n 2, 1) := by decide +kernel
theorem dX4_store_21 : decode cX4_store 21 = .ok (.i2s, 1) := by decide +kernel
theorem dX4_store_22 : decode cX4_store 22 = .ok (.goto 4, 3) := by decide +kernel
theorem dX4_store_25 : decode cX4_store 25 = .ok (.iload_n 2, 1) := by decide +kernel
theorem dX4_store_26 : decode cX4_store 26 = .ok (.istore_n 3, 1) := by decide +kernel
theorem dX4_store_27 : decode cX4_store 27 = .ok (.aload_n 0, 1) := by decide +kernel
theorem dX4_store_28 : decode cX4_store 28 = .ok (.getfield 13, 3) := by decide +kernel
theorem dX4_store_31 : decode cX4_store 31 = .ok (.iload_n 1, 1) := by decide +kernel
theorem dX4_store_32 : decode cX4_store 32 = .ok (.iload_n 3, 1) := by decide +kernel
theorem dX4_store_33 : decode cX4_store 33 = .ok (.iastore, 1) := by decide +kernel
theorem dX4_store_34 : decode cX4_store 34 = .ok (.iload_n 3, 1) := by decide +kernel
theorem dX4_store_35 : decode cX4_store 35 = .ok (.ireturn, 1) := by decide +kernel
theorem dJ6_numberOfLeadingZeros_0f7a4_0 : decode cJ6_numberOfLeadingZeros_0f7a4 0 = .ok (.iload_n 0, 1) := by decide +kernel
theorem dJ6_numberOfLeadingZeros_0f7a4_1 : decode cJ6_numberOfLeadingZeros_0f7a4 1 = .ok (.ifCond .gt 14, 3) := by decide +kernel
theorem dJ6_numberOfLeadingZeros_0f7a4_4 : decode cJ6_numberOfLeadingZeros_0f7a4 4 = .ok (.iload_n 0, 1) := by decide +kernel
theorem dJ6_numberOfLeadingZeros_0f7a4_5 : decode cJ6_numberOfLeadingZeros_0f7a4 5 = .ok (.ifCond .ne 8, 3) := by decide +kernel
theorem dJ6_numberOfLeadingZeros_0f7a4_8 : decode cJ6_numberOfLeadingZeros_0f7a4 8 = .ok (.bipush 32, 2) := by decide +kernel
theorem dJ6_numberOfLeadingZeros_0f7a4_10 : decode cJ6_numberOfLeadingZeros_0f7a4 10 = .ok (.goto 4, 3) := by decide +kernel
theorem dJ6_numberOfLeadingZeros_0f7a4_13 : decode cJ6_numberOfLeadingZeros_0f7a4 13 = .ok (.iconst 0, 1) := by decide +kernel
theorem dJ6_numberOfLeadingZeros_0f7a4_14 : decode cJ6_numberOfLeadingZeros_0f7a4 14 = .ok (.ireturn, 1) := by decide +kernel
theorem dJ6_numberOfLeadingZeros_0f7a4_15 : decode cJ6_numberOfLeadingZeros_0f7a4 15 = .ok (.bipush 31, 2) := by decide +kernel
theorem dJ6_numberOfLeadingZeros_0f7a4_17 : decode cJ6_numberOfLeadingZeros_0f7a4 17 = .ok (.istore_n 1, 1) := by decide +kernel
theorem dJ6_numberOfLeadingZeros_0f7a4_18 : decode cJ6_numberOfLeadingZeros_0f7a4 18 = .ok (.iload_n 0, 1) := by decide +kernel
theorem dJ6_numberOfLeadingZeros_0f7a4_19 : decode cJ6_numberOfLeadingZeros_0f7a4 19 = .ok (.ldc_w 264, 3) := by decide +kernel
theorem dJ6_numberOfLeadingZeros_0f7a4_22 : decode cJ6_numberOfLeadingZeros_0f7a4 22 = .ok (.if_icmp .lt 11, 3) := by decide +kernel
theorem dJ6_numberOfLeadingZeros_0f7a4_25 : decode cJ6_numberOfLeadingZeros_0f7a4 25 = .ok (.iinc 1 (-16), 3) := by decide +kernel
theorem dJ6_numberOfLeadingZeros_0f7a4_28 : decode cJ6_numberOfLeadingZeros_0f7a4 28 = .ok (.iload_n 0, 1) := by decide +kernel
theorem dJ6_numberOfLeadingZeros_0f7a4_29 : decode cJ6_numberOfLeadingZeros_0f7a4 29 = .ok (.bipush 16, 2) := by decide +kernel
theorem dJ6_numberOfLeadingZeros_0f7a4_31 : decode cJ6_numberOfLeadingZeros_0f7a4 31 = .ok (.iushr, 1) := by decide +kernel
theorem dJ6_numberOfLeadingZeros_0f7a4_32 : decode cJ6_numberOfLeadingZeros_0f7a4 32 = .ok (.istore_n 0, 1) := by decide +kernel
theorem dJ6_numberOfLeadingZeros_0f7a4_33 : decode cJ6_numberOfLeadingZeros_0f7a4 33 = .ok (.iload_n 0, 1) := by decide +kernel
theorem dJ6_numberOfLeadingZeros_0f7a4_34 : decode cJ6_numberOfLeadingZeros_0f7a4 34 = .ok (.sipush 256, 3) := by decide +kernel
theorem dJ6_numberOfLeadingZeros_0f7a4_37 : decode cJ6_numberOfLeadingZeros_0f7a4 37 = .ok (.if_icmp .lt 11, 3) := by decide +kernel
theorem dJ6_numberOfLeadingZeros_0f7a4_40 : decode cJ6_numberOfLeadingZeros_0f7a4 40 = .ok (.iinc 1 (-8), 3) := by decide +kernel
theorem dJ6_numberOfLeadingZeros_0f7a4_43 : decode cJ6_numberOfLeadingZeros_0f7a4 43 = .ok (.iload_n 0, 1) := by decide +kernel
theorem dJ6_numberOfLeadingZeros_0f7a4_44 : decode cJ6_numberOfLeadingZeros_0f7a4 44 = .ok (.bipush 8, 2) := by decide +kernel
theorem dJ6_numberOfLeadingZeros_0f7a4_46 : decode cJ6_numberOfLeadingZeros_0f7a4 46 = .ok (.iushr, 1) := by decide +kernel
theorem dJ6_numberOfLeadingZeros_0f7a4_47 : decode cJ6_numberOfLeadingZeros_0f7a4 47 = .ok (.istore_n 0, 1) := by decide +kernel
theorem dJ6_numberOfLeadingZeros_0f7a4_48 : decode cJ6_numberOfLeadingZeros_0f7a4 48 = .ok (.iload_n 0, 1) := by decide +kernel
theorem dJ6_numberOfLeadingZeros_0f7a4_49 : decode cJ6_numberOfLeadingZeros_0f7a4 49 = .ok (.bipush 16, 2) := by decide +kernel
theorem dJ6_numberOfLeadingZeros_0f7a4_51 : decode cJ6_numberOfLeadingZeros_0f7a4 51 = .ok (.if_icmp .lt 10, 3) := by decide +kernel
theorem dJ6_numberOfLeadingZeros_0f7a4_54 : decode cJ6_numberOfLeadingZeros_0f7a4 54 = .ok (.iinc 1 (-4), 3) := by decide +kernel
theorem dJ6_numberOfLeadingZeros_0f7a4_57 : decode cJ6_numberOfLeadingZeros_0f7a4 57 = .ok (.iload_n 0, 1) := by decide +kernel
theorem dJ6_numberOfLeadingZeros_0f7a4_58 : decode cJ6_numberOfLeadingZeros_0f7a4 58 = .ok (.iconst 4, 1) := by decide +kernel
theorem dJ6_numberOfLeadingZeros_0f7a4_59 : decode cJ6_numberOfLeadingZeros_0f7a4 59 = .ok (.iushr, 1) := by decide +kernel
theorem dJ6_numberOfLeadingZeros_0f7a4_60 : decode cJ6_numberOfLeadingZeros_0f7a4 60 = .ok (.istore_n 0, 1) := by decide +kernel
theorem dJ6_numberOfLeadingZeros_0f7a4_61 : decode cJ6_numberOfLeadingZeros_0f7a4 61 = .ok (.iload_n 0, 1) := by decide +kernel
theorem dJ6_numberOfLeadingZeros_0f7a4_62 : decode cJ6_numberOfLeadingZeros_0f7a4 62 = .ok (.iconst 4, 1) := by decide +kernel
theorem dJ6_numberOfLeadingZeros_0f7a4_63 : decode cJ6_numberOfLeadingZeros_0f7a4 63 = .ok (.if_icmp .lt 10, 3) := by decide +kernel
theorem dJ6_numberOfLeadingZeros_0f7a4_66 : decode cJ6_numberOfLeadingZeros_0f7a4 66 = .ok (.iinc 1 (-2), 3) := by decide +kernel
theorem dJ6_numberOfLeadingZeros_0f7a4_69 : decode cJ6_numberOfLeadingZeros_0f7a4 69 = .ok (.iload_n 0, 1) := by decide +kernel
theorem dJ6_numberOfLeadingZeros_0f7a4_70 : decode cJ6_numberOfLeadingZeros_0f7a4 70 = .ok (.iconst 2, 1) := by decide +kernel
theorem dJ6_numberOfLeadingZeros_0f7a4_71 : decode cJ6_numberOfLeadingZeros_0f7a4 71 = .ok (.iushr, 1) := by decide +kernel
theorem dJ6_numberOfLeadingZeros_0f7a4_72 : decode cJ6_numberOfLeadingZeros_0f7a4 72 = .ok (.istore_n 0, 1) := by decide +kernel
theorem dJ6_numberOfLeadingZeros_0f7a4_73 : decode cJ6_numberOfLeadingZeros_0f7a4 73 = .ok (.iload_n 1, 1) := by decide +kernel
theorem dJ6_numberOfLeadingZeros_0f7a4_74 : decode cJ6_numberOfLeadingZeros_0f7a4 74 = .ok (.iload_n 0, 1) := by decide +kernel
theorem dJ6_numberOfLeadingZeros_0f7a4_75 : decode cJ6_numberOfLeadingZeros_0f7a4 75 = .ok (.iconst 1, 1) := by decide +kernel
theorem dJ6_numberOfLeadingZeros_0f7a4_76 : decode cJ6_numberOfLeadingZeros_0f7a4 76 = .ok (.iushr, 1) := by decide +kernel
theorem dJ6_numberOfLeadingZeros_0f7a4_77 : decode cJ6_numberOfLeadingZeros_0f7a4 77 = .ok (.isub, 1) := by decide +kernel
theorem dJ6_numberOfLeadingZeros_0f7a4_78 : decode cJ6_numberOfLeadingZeros_0f7a4 78 = .ok (.ireturn, 1) := by decide +kernel
theorem dJ6_numberOfTrailingZeros_0f7a4_0 : decode cJ6_numberOfTrailingZeros_0f7a4 0 = .ok (.iload_n 0, 1) := by decide +kernel
theorem dJ6_numberOfTrailingZeros_0f7a4_1 : decode cJ6_numberOfTrailingZeros_0f7a4 1 = .ok (.iconst (-1), 1) := by decide +kernel
theorem dJ6_numberOfTrailingZeros_0f7a4_2 : decode cJ6_numberOfTrailingZeros_0f7a4 2 = .ok (.ixor, 1) := by decide +kernel
theorem dJ6_numberOfTrailingZeros_0f7a4_3 : decode cJ6_numberOfTrailingZeros_0f7a4 3 = .ok (.iload_n 0, 1) := by decide +kernel
theorem dJ6_numberOfTrailingZeros_0f7a4_4 : decode cJ6_numberOfTrailingZeros_0f7a4 4 = .ok (.iconst 1, 1) := by decide +kernel
theorem dJ6_numberOfTrailingZeros_0f7a4_5 : decode cJ6_numberOfTrailingZeros_0f7a4 5 = .ok (.isub, 1) := by decide +kernel
theorem dJ6_numberOfTrailingZeros_0f7a4_6 : decode cJ6_numberOfTrailingZeros_0f7a4 6 = .ok (.iand, 1) := by decide +kernel
theorem dJ6_numberOfTrailingZeros_0f7a4_7 : decode cJ6_numberOfTrailingZeros_0f7a4 7 = .ok (.istore_n 0, 1) := by decide +kernel
theorem dJ6_numberOfTrailingZeros_0f7a4_8 : decode cJ6_numberOfTrailingZeros_0f7a4 8 = .ok (.iload_n 0, 1) := by decide +kernel
theorem dJ6_numberOfTrailingZeros_0f7a4_9 : decode cJ6_numberOfTrailingZeros_0f7a4 9 = .ok (.ifCond .gt 8, 3) := by decide +kernel
theorem dJ6_numberOfTrailingZeros_0f7a4_12 : decode cJ6_numberOfTrailingZeros_0f7a4 12 = .ok (.iload_n 0, 1) := by decide +kernel
theorem dJ6_numberOfTrailingZeros_0f7a4_13 : decode cJ6_numberOfTrailingZeros_0f7a4 13 = .ok (.bipush 32, 2) := by decide +kernel
theorem dJ6_numberOfTrailingZeros_0f7a4_15 : decode cJ6_numberOfTrailingZeros_0f7a4 15 = .ok (.iand, 1) := by decide +kernel
theorem dJ6_numberOfTrailingZeros_0f7a4_16 : decode cJ6_numberOfTrailingZeros_0f7a4 16 = .ok (.ireturn, 1) := by decide +kernel
theorem dJ6_numberOfTrailingZeros_0f7a4_17 : decode cJ6_numberOfTrailingZeros_0f7a4 17 = .ok (.iconst 1, 1) := by decide +kernel
theorem dJ6_numberOfTrailingZeros_0f7a4_18 : decode cJ6_numberOfTrailingZeros_0f7a4 18 = .ok (.istore_n 1, 1) := by decide +kernel
theorem dJ6_numberOfTrailingZeros_0f7a4_19 : decode cJ6_numberOfTrailingZeros_0f7a4 19 = .ok (.iload_n 0, 1) := by decide +kernel
theorem dJ6_numberOfTrailingZeros_0f7a4_20 : decode cJ6_numberOfTrailingZeros_0f7a4 20 = .ok (.ldc_w 264, 3) := by decide +kernel
theorem dJ6_numberOfTrailingZeros_0f7a4_23 : decode cJ6_numberOfTrailingZeros_0f7a4 23 = .ok (.if_icmp .le 11, 3) := by decide +kernel
theorem dJ6_numberOfTrailingZeros_0f7a4_26 : decode cJ6_numberOfTrailingZeros_0f7a4 26 = .ok (.iinc 1 16, 3) := by decide +kernel
theorem dJ6_numberOfTrailingZeros_0f7a4_29 : decode cJ6_numberOfTrailingZeros_0f7a4 29 = .ok (.iload_n 0, 1) := by decide +kernel
theorem dJ6_numberOfTrailingZeros_0f7a4_30 : decode cJ6_numberOfTrailingZeros_0f7a4 30 = .ok (.bipush 16, 2) := by decide +kernel
theorem dJ6_numberOfTrailingZeros_0f7a4_32 : decode cJ6_numberOfTrailingZeros_0f7a4 32 = .ok (.iushr, 1) := by decide +kernel
theorem dJ6_numberOfTrailingZeros_0f7a4_33 : decode cJ6_numberOfTrailingZeros_0f7a4 33 = .ok (.istore_n 0, 1) := by decide +kernel
theorem dJ6_numberOfTrailingZeros_0f7a4_34 : decode cJ6_numberOfTrailingZeros_0f7a4 34 = .ok (.iload_n 0, 1) := by decide +kernel
theorem dJ6_numberOfTrailingZeros_0f7a4_35 : decode cJ6_numberOfTrailingZeros_0f7a4 35 = .ok (.sipush 256, 3) := by decide +kernel
theorem dJ6_numberOfTrailingZeros_0f7a4_38 : decode cJ6_numberOfTrailingZeros_0f7a4 38 = .ok (.if_icmp .le 11, 3) := by decide +kernel
theorem dJ6_numberOfTrailingZeros_0f7a4_41 : decode cJ6_numberOfTrailingZeros_0f7a4 41 = .ok (.iinc 1 8, 3) := by decide +kernel
theorem dJ6_numberOfTrailingZeros_0f7a4_44 : decode cJ6_numberOfTrailingZeros_0f7a4 44 = .ok (.iload_n 0, 1) := by decide +kernel
theorem dJ6_numberOfTrailingZeros_0f7a4_45 : decode cJ6_numberOfTrailingZeros_0f7a4 45 = .ok (.bipush 8, 2) := by decide +kernel
theorem dJ6_numberOfTrailingZeros_0f7a4_47 : decode cJ6_numberOfTrailingZeros_0f7a4 47 = .ok (.iushr, 1) := by decide +kernel
theorem dJ6_numberOfTrailingZeros_0f7a4_48 : decode cJ6_numberOfTrailingZeros_0f7a4 48 = .ok (.istore_n 0, 1) := by decide +kernel
theorem dJ6_numberOfTrailingZeros_0f7a4_49 : decode cJ6_numberOfTrailingZeros_0f7a4 49 = .ok (.iload_n 0, 1) := by decide +kernel
theorem dJ6_numberOfTrailingZeros_0f7a4_50 : decode cJ6_numberOfTrailingZeros_0f7a4 50 = .ok (.bipush 16, 2) := by decide +kernel
theorem dJ6_numberOfTrailingZeros_0f7a4_52 : decode cJ6_numberOfTrailingZeros_0f7a4 52 = .ok (.if_icmp .le 10, 3) := by decide +kernel
theorem dJ6_numberOfTrailingZeros_0f7a4_55 : decode cJ6_numberOfTrailingZeros_0f7a4 55 = .ok (.iinc 1 4, 3) := by decide +kernel
theorem dJ6_numberOfTrailingZeros_0f7a4_58 : decode cJ6_numberOfTrailingZeros_0f7a4 58 = .ok (.iload_n 0, 1) := by decide +kernel
theorem dJ6_numberOfTrailingZeros_0f7a4_59 : decode cJ6_numberOfTrailingZeros_0f7a4 59 = .ok (.iconst 4, 1) := by decide +kernel
theorem dJ6_numberOfTrailingZeros_0f7a4_60 : decode cJ6_numberOfTrailingZeros_0f7a4 60 = .ok (.iushr, 1) := by decide +kernel
theorem dJ6_numberOfTrailingZeros_0f7a4_61 : decode cJ6_numberOfTrailingZeros_0f7a4 61 = .ok (.istore_n 0, 1) := by decide +kernel
theorem dJ6_numberOfTrailingZeros_0f7a4_62 : decode cJ6_numberOfTrailingZeros_0f7a4 62 = .ok (.iload_n 0, 1) := by decide +kernel
theorem dJ6_numberOfTrailingZeros_0f7a4_63 : decode cJ6_numberOfTrailingZeros_0f7a4 63 = .ok (.iconst 4, 1) := by decide +kernel
theorem dJ6_numberOfTrailingZeros_0f7a4_64 : decode cJ6_numberOfTrailingZeros_0f7a4 64 = .ok (.if_icmp .le 10, 3) := by decide +kernel
theorem dJ6_numberOfTrailingZeros_0f7a4_67 : decode cJ6_numberOfTrailingZeros_0f7a4 67 = .ok (.iinc 1 2, 3) := by decide +kernel
theorem dJ6_numberOfTrailingZeros_0f7a4_70 : decode cJ6_numberOfTrailingZeros_0f7a4 70 = .ok (.iload_n 0, 1) := by decide +kernel
theorem dJ6_numberOfTrailingZeros_0f7a4_71 : decode cJ6_numberOfTrailingZeros_0f7a4 71 = .ok (.iconst 2, 1) := by decide +kernel
theorem dJ6_numberOfTrailingZeros_0f7a4_72 : decode cJ6_numberOfTrailingZeros_0f7a4 72 = .ok (.iushr, 1) := by decide +kernel
theorem dJ6_numberOfTrailingZeros_0f7a4_73 : decode cJ6_numberOfTrailingZeros_0f7a4 73 = .ok (.istore_n 0, 1) := by decide +kernel
theorem dJ6_numberOfTrailingZeros_0f7a4_74 : decode cJ6_numberOfTrailingZeros_0f7a4 74 = .ok (.iload_n 1, 1) := by decide +kernel
theorem dJ6_numberOfTrailingZeros_0f7a4_75 : decode cJ6_numberOfTrailingZeros_0f7a4 75 = .ok (.iload_n 0, 1) := by decide +kernel
theorem dJ6_numberOfTrailingZeros_0f7a4_76 : decode cJ6_numberOfTrailingZeros_0f7a4 76 = .ok (.iconst 1, 1) := by decide +kernel
theorem dJ6_numberOfTrailingZeros_0f7a4_77 : decode cJ6_numberOfTrailingZeros_0f7a4 77 = .ok (.iushr, 1) := by decide +kernel
theorem dJ6_numberOfTrailingZeros_0f7a4_78 : decode cJ6_numberOfTrailingZeros_0f7a4 78 = .ok (.iadd, 1) := by decide +kernel
theorem dJ6_numberOfTrailingZeros_0f7a4_79 : decode cJ6_numberOfTrailingZeros_0f7a4 79 = .ok (.ireturn, 1) := by decide +kernel
theorem dJ6_bitCount_0f7a4_0 : decode cJ6_bitCount_0f7a4 0 = .ok (.iload_n 0, 1) := by decide +kernel
theorem dJ6_bitCount_0f7a4_1 : decode cJ6_bitCount_0f7a4 1 = .ok (.iload_n 0, 1) := by decide +kernel
theorem dJ6_bitCount_0f7a4_2 : decode cJ6_bitCount_0f7a4 2 = .ok (.iconst 1, 1) := by decide +kernel
theorem dJ6_bitCount_0f7a4_3 : decode cJ6_bitCount_0f7a4 3 = .ok (.iushr, 1) := by decide +kernel
theorem dJ6_bitCount_0f7a4_4 : decode cJ6_bitCount_0f7a4 4 = .ok (.ldc_w 265, 3) := by decide +kernel
theorem dJ6_bitCount_0f7a4_7 : decode cJ6_bitCount_0f7a4 7 = .ok (.iand, 1) := by decide +kernel
theorem dJ6_bitCount_0f7a4_8 : decode cJ6_bitCount_0f7a4 8 = .ok (.isub, 1) := by decide +kernel
theorem dJ6_bitCount_0f7a4_9 : decode cJ6_bitCount_0f7a4 9 = .ok (.istore_n 0, 1) := by decide +kernel
theorem dJ6_bitCount_0f7a4_10 : decode cJ6_bitCount_0f7a4 10 = .ok (.iload_n 0, 1) := by decide +kernel
theorem dJ6_bitCount_0f7a4_11 : decode cJ6_bitCount_0f7a4 11 = .ok (.ldc_w 266, 3) := by decide +kernel
theorem dJ6_bitCount_0f7a4_14 : decode cJ6_bitCount_0f7a4 14 = .ok (.iand, 1) := by decide +kernel
theorem dJ6_bitCount_0f7a4_15 : decode cJ6_bitCount_0f7a4 15 = .ok (.iload_n 0, 1) := by decide +kernel
theorem dJ6_bitCount_0f7a4_16 : decode cJ6_bitCount_0f7a4 16 = .ok (.iconst 2, 1) := by decide +kernel
theorem dJ6_bitCount_0f7a4_17 : decode cJ6_bitCount_0f7a4 17 = .ok (.iushr, 1) := by decide +kernel
theorem dJ6_bitCount_0f7a4_18 : decode cJ6_bitCount_0f7a4 18 = .ok (.ldc_w 266, 3) := by decide +kernel
theorem dJ6_bitCount_0f7a4_21 : decode cJ6_bitCount_0f7a4 21 = .ok (.iand, 1) := by decide +kernel
theorem dJ6_bitCount_0f7a4_22 : decode cJ6_bitCount_0f7a4 22 = .ok (.iadd, 1) := by decide +kernel
theorem dJ6_bitCount_0f7a4_23 : decode cJ6_bitCount_0f7a4 23 = .ok (.istore_n 0, 1) := by decide +kernel
theorem dJ6_bitCount_0f7a4_24 : decode cJ6_bitCount_0f7a4 24 = .ok (.iload_n 0, 1) := by decide +kernel
theorem dJ6_bitCount_0f7a4_25 : decode cJ6_bitCount_0f7a4 25 = .ok (.iload_n 0, 1) := by decide +kernel
theorem dJ6_bitCount_0f7a4_26 : decode cJ6_bitCount_0f7a4 26 = .ok (.iconst 4, 1) := by decide +kernel
theorem dJ6_bitCount_0f7a4_27 : decode cJ6_bitCount_0f7a4 27 = .ok (.iushr, 1) := by decide +kernel
theorem dJ6_bitCount_0f7a4_28 : decode cJ6_bitCount_0f7a4 28 = .ok (.iadd, 1) := by decide +kernel
theorem dJ6_bitCount_0f7a4_29 : decode cJ6_bitCount_0f7a4 29 = .ok (.ldc_w 267, 3) := by decide +kernel
theorem dJ6_bitCount_0f7a4_32 : decode cJ6_bitCount_0f7a4 32 = .ok (.iand, 1) := by decide +kernel
theorem dJ6_bitCount_0f7a4_33 : decode cJ6_bitCount_0f7a4 33 = .ok (.istore_n 0, 1) := by decide +kernel
theorem dJ6_bitCount_0f7a4_34 : decode cJ6_bitCount_0f7a4 34 = .ok (.iload_n 0, 1) := by decide +kernel
theorem dJ6_bitCount_0f7a4_35 : decode cJ6_bitCount_0f7a4 35 = .ok (.iload_n 0, 1) := by decide +kernel
theorem dJ6_bitCount_0f7a4_36 : decode cJ6_bitCount_0f7a4 36 = .ok (.bipush 8, 2) := by decide +kernel
theorem dJ6_bitCount_0f7a4_38 : decode cJ6_bitCount_0f7a4 38 = .ok (.iushr, 1) := by decide +kernel
theorem dJ6_bitCount_0f7a4_39 : decode cJ6_bitCount_0f7a4 39 = .ok (.iadd, 1) := by decide +kernel
theorem dJ6_bitCount_0f7a4_40 : decode cJ6_bitCount_0f7a4 40 = .ok (.istore_n 0, 1) := by decide +kernel
theorem dJ6_bitCount_0f7a4_41 : decode cJ6_bitCount_0f7a4 41 = .ok (.iload_n 0, 1) := by decide +kernel
theorem dJ6_bitCount_0f7a4_42 : decode cJ6_bitCount_0f7a4 42 = .ok (.iload_n 0, 1) := by decide +kernel
theorem dJ6_bitCount_0f7a4_43 : decode cJ6_bitCount_0f7a4 43 = .ok (.bipush 16, 2) := by decide +kernel
theorem dJ6_bitCount_0f7a4_45 : decode cJ6_bitCount_0f7a4 45 = .ok (.iushr, 1) := by decide +kernel
theorem dJ6_bitCount_0f7a4_46 : decode cJ6_bitCount_0f7a4 46 = .ok (.iadd, 1) := by decide +kernel
theorem dJ6_bitCount_0f7a4_47 : decode cJ6_bitCount_0f7a4 47 = .ok (.istore_n 0, 1) := by decide +kernel
theorem dJ6_bitCount_0f7a4_48 : decode cJ6_bitCount_0f7a4 48 = .ok (.iload_n 0, 1) := by decide +kernel
theorem dJ6_bitCount_0f7a4_49 : decode cJ6_bitCount_0f7a4 49 = .ok (.bipush 63, 2) := by decide +kernel
theorem dJ6_bitCount_0f7a4_51 : decode cJ6_bitCount_0f7a4 51 = .ok (.iand, 1) := by decide +kernel
theorem dJ6_bitCount_0f7a4_52 : decode cJ6_bitCount_0f7a4 52 = .ok (.ireturn, 1) := by decide +kernel
theorem dJ9_max_7cf53_0 : decode cJ9_max_7cf53 0 = .ok (.iload_n 0, 1) := by decide +kernel
theorem dJ9_max_7cf53_1 : decode cJ9_max_7cf53 1 = .ok (.iload_n 1, 1) := by decide +kernel
theorem dJ9_max_7cf53_2 : decode cJ9_max_7cf53 2 = .ok (.if_icmp .lt 7, 3) := by decide +kernel
theorem dJ9_max_7cf53_5 : decode cJ9_max_7cf53 5 = .ok (.iload_n 0, 1) := by decide +kernel
theorem dJ9_max_7cf53_6 : decode cJ9_max_7cf53 6 = .ok (.goto 4, 3) := by decide +kernel
theorem dJ9_max_7cf53_9 : decode cJ9_max_7cf53 9 = .ok (.iload_n 1, 1) := by decide +kernel
theorem dJ9_max_7cf53_10 : decode cJ9_max_7cf53 10 = .ok (.ireturn, 1) := by decide +kernel
theorem dJ9_max_f86c9_0 : decode cJ9_max_f86c9 0 = .ok (.lload_n 0, 1) := by decide +kernel
theorem dJ9_max_f86c9_1 : decode cJ9_max_f86c9 1 = .ok (.lload_n 2, 1) := by decide +kernel
theorem dJ9_max_f86c9_2 : decode cJ9_max_f86c9 2 = .ok (.lcmp, 1) := by decide +kernel
theorem dJ9_max_f86c9_3 : decode cJ9_max_f86c9 3 = .ok (.ifCond .lt 7, 3) := by decide +kernel
theorem dJ9_max_f86c9_6 : decode cJ9_max_f86c9 6 = .ok (.lload_n 0, 1) := by decide +kernel
theorem dJ9_max_f86c9_7 : decode cJ9_max_f86c9 7 = .ok (.goto 4, 3) := by decide +kernel
theorem dJ9_max_f86c9_10 : decode cJ9_max_f86c9 10 = .ok (.lload_n 2, 1) := by decide +kernel
theorem dJ9_max_f86c9_11 : decode cJ9_max_f86c9 11 = .ok (.lreturn, 1) := by decide +kernel
theorem dJ9_min_7cf53_0 : decode cJ9_min_7cf53 0 = .ok (.iload_n 0, 1) := by decide +kernel
theorem dJ9_min_7cf53_1 : decode cJ9_min_7cf53 1 = .ok (.iload_n 1, 1) := by decide +kernel
theorem dJ9_min_7cf53_2 : decode cJ9_min_7cf53 2 = .ok (.if_icmp .gt 7, 3) := by decide +kernel
theorem dJ9_min_7cf53_5 : decode cJ9_min_7cf53 5 = .ok (.iload_n 0, 1) := by decide +kernel
theorem dJ9_min_7cf53_6 : decode cJ9_min_7cf53 6 = .ok (.goto 4, 3) := by decide +kernel
theorem dJ9_min_7cf53_9 : decode cJ9_min_7cf53 9 = .ok (.iload_n 1, 1) := by decide +kernel
theorem dJ9_min_7cf53_10 : decode cJ9_min_7cf53 10 = .ok (.ireturn, 1) := by decide +kernel
