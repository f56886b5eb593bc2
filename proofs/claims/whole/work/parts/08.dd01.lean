theorem dX7_near_21 : decode cX7_near 21 = .ok (.ireturn, 1) := by decide +kernel
theorem dX7_tell_0 : decode cX7_tell 0 = .ok (.aload_n 0, 1) := by decide +kernel
theorem dX7_tell_1 : decode cX7_tell 1 = .ok (.iload_n 1, 1) := by decide +kernel
theorem dX7_tell_2 : decode cX7_tell 2 = .ok (.iload_n 2, 1) := by decide +kernel
theorem dX7_tell_3 : decode cX7_tell 3 = .ok (.invokevirtual 124, 3) := by decide +kernel
theorem dX7_tell_6 : decode cX7_tell 6 = .ok (.astore 5, 2) := by decide +kernel
theorem dX7_tell_8 : decode cX7_tell 8 = .ok (.aload 5, 2) := by decide +kernel
theorem dX7_tell_10 : decode cX7_tell 10 = .ok (.ifnull 10, 3) := by decide +kernel
theorem dX7_tell_13 : decode cX7_tell 13 = .ok (.iload_n 3, 1) := by decide +kernel
theorem dX7_tell_14 : decode cX7_tell 14 = .ok (.invokestatic 53, 3) := by decide +kernel
theorem dX7_tell_17 : decode cX7_tell 17 = .ok (.ifCond .ne 6, 3) := by decide +kernel
theorem dX7_tell_20 : decode cX7_tell 20 = .ok (.ldc 61, 2) := by decide +kernel
theorem dX7_tell_22 : decode cX7_tell 22 = .ok (.ireturn, 1) := by decide +kernel
theorem dX7_tell_23 : decode cX7_tell 23 = .ok (.aload_n 0, 1) := by decide +kernel
theorem dX7_tell_24 : decode cX7_tell 24 = .ok (.getfield 11, 3) := by decide +kernel
theorem dX7_tell_27 : decode cX7_tell 27 = .ok (.iload_n 3, 1) := by decide +kernel
theorem dX7_tell_28 : decode cX7_tell 28 = .ok (.aaload, 1) := by decide +kernel
theorem dX7_tell_29 : decode cX7_tell 29 = .ok (.astore 6, 2) := by decide +kernel
theorem dX7_tell_31 : decode cX7_tell 31 = .ok (.aload 6, 2) := by decide +kernel
theorem dX7_tell_33 : decode cX7_tell 33 = .ok (.ifnonnull 9, 3) := by decide +kernel
theorem dX7_tell_36 : decode cX7_tell 36 = .ok (.aload_n 0, 1) := by decide +kernel
theorem dX7_tell_37 : decode cX7_tell 37 = .ok (.iconst 1, 1) := by decide +kernel
theorem dX7_tell_38 : decode cX7_tell 38 = .ok (.invokevirtual 62, 3) := by decide +kernel
theorem dX7_tell_41 : decode cX7_tell 41 = .ok (.ireturn, 1) := by decide +kernel
theorem dX7_tell_42 : decode cX7_tell 42 = .ok (.aload 6, 2) := by decide +kernel
theorem dX7_tell_44 : decode cX7_tell 44 = .ok (.iload 4, 2) := by decide +kernel
theorem dX7_tell_46 : decode cX7_tell 46 = .ok (.iconst 0, 1) := by decide +kernel
theorem dX7_tell_47 : decode cX7_tell 47 = .ok (.invokevirtual 72, 3) := by decide +kernel
theorem dX7_tell_50 : decode cX7_tell 50 = .ok (.ifCond .ne 9, 3) := by decide +kernel
theorem dX7_tell_53 : decode cX7_tell 53 = .ok (.aload_n 0, 1) := by decide +kernel
theorem dX7_tell_54 : decode cX7_tell 54 = .ok (.iconst 2, 1) := by decide +kernel
theorem dX7_tell_55 : decode cX7_tell 55 = .ok (.invokevirtual 62, 3) := by decide +kernel
theorem dX7_tell_58 : decode cX7_tell 58 = .ok (.ireturn, 1) := by decide +kernel
theorem dX7_tell_59 : decode cX7_tell 59 = .ok (.iconst 0, 1) := by decide +kernel
theorem dX7_tell_60 : decode cX7_tell 60 = .ok (.istore 7, 2) := by decide +kernel
theorem dX7_tell_62 : decode cX7_tell 62 = .ok (.aload 5, 2) := by decide +kernel
theorem dX7_tell_64 : decode cX7_tell 64 = .ok (.iload_n 2, 1) := by decide +kernel
theorem dX7_tell_65 : decode cX7_tell 65 = .ok (.invokevirtual 176, 3) := by decide +kernel
theorem dX7_tell_68 : decode cX7_tell 68 = .ok (.istore 8, 2) := by decide +kernel
theorem dX7_tell_70 : decode cX7_tell 70 = .ok (.iload 4, 2) := by decide +kernel
theorem dX7_tell_72 : decode cX7_tell 72 = .ok (.iload 7, 2) := by decide +kernel
theorem dX7_tell_74 : decode cX7_tell 74 = .ok (.iadd, 1) := by decide +kernel
theorem dX7_tell_75 : decode cX7_tell 75 = .ok (.aload 6, 2) := by decide +kernel
theorem dX7_tell_77 : decode cX7_tell 77 = .ok (.getfield 83, 3) := by decide +kernel
theorem dX7_tell_80 : decode cX7_tell 80 = .ok (.arraylength, 1) := by decide +kernel
theorem dX7_tell_81 : decode cX7_tell 81 = .ok (.if_icmp .ge 40, 3) := by decide +kernel
theorem dX7_tell_84 : decode cX7_tell 84 = .ok (.iload 8, 2) := by decide +kernel
theorem dX7_tell_86 : decode cX7_tell 86 = .ok (.ldc 247, 2) := by decide +kernel
theorem dX7_tell_88 : decode cX7_tell 88 = .ok (.if_icmp .eq 33, 3) := by decide +kernel
theorem dX7_tell_91 : decode cX7_tell 91 = .ok (.aload 6, 2) := by decide +kernel
theorem dX7_tell_93 : decode cX7_tell 93 = .ok (.iload 4, 2) := by decide +kernel
theorem dX7_tell_95 : decode cX7_tell 95 = .ok (.iload 7, 2) := by decide +kernel
theorem dX7_tell_97 : decode cX7_tell 97 = .ok (.iadd, 1) := by decide +kernel
theorem dX7_tell_98 : decode cX7_tell 98 = .ok (.iload 8, 2) := by decide +kernel
theorem dX7_tell_100 : decode cX7_tell 100 = .ok (.invokevirtual 76, 3) := by decide +kernel
theorem dX7_tell_103 : decode cX7_tell 103 = .ok (.pop, 1) := by decide +kernel
theorem dX7_tell_104 : decode cX7_tell 104 = .ok (.iinc 7 1, 3) := by decide +kernel
theorem dX7_tell_107 : decode cX7_tell 107 = .ok (.aload 5, 2) := by decide +kernel
theorem dX7_tell_109 : decode cX7_tell 109 = .ok (.iload 8, 2) := by decide +kernel
theorem dX7_tell_111 : decode cX7_tell 111 = .ok (.iconst 1, 1) := by decide +kernel
theorem dX7_tell_112 : decode cX7_tell 112 = .ok (.iadd, 1) := by decide +kernel
theorem dX7_tell_113 : decode cX7_tell 113 = .ok (.invokevirtual 176, 3) := by decide +kernel
theorem dX7_tell_116 : decode cX7_tell 116 = .ok (.istore 8, 2) := by decide +kernel
theorem dX7_tell_118 : decode cX7_tell 118 = .ok (.goto (-48), 3) := by decide +kernel
theorem dX7_tell_121 : decode cX7_tell 121 = .ok (.aload_n 0, 1) := by decide +kernel
theorem dX7_tell_122 : decode cX7_tell 122 = .ok (.iload 7, 2) := by decide +kernel
theorem dX7_tell_124 : decode cX7_tell 124 = .ok (.invokevirtual 69, 3) := by decide +kernel
theorem dX7_tell_127 : decode cX7_tell 127 = .ok (.ireturn, 1) := by decide +kernel
theorem dX7_chase_0 : decode cX7_chase 0 = .ok (.aload_n 0, 1) := by decide +kernel
theorem dX7_chase_1 : decode cX7_chase 1 = .ok (.iload_n 1, 1) := by decide +kernel
theorem dX7_chase_2 : decode cX7_chase 2 = .ok (.iload_n 3, 1) := by decide +kernel
theorem dX7_chase_3 : decode cX7_chase 3 = .ok (.invokevirtual 124, 3) := by decide +kernel
theorem dX7_chase_6 : decode cX7_chase 6 = .ok (.astore 5, 2) := by decide +kernel
theorem dX7_chase_8 : decode cX7_chase 8 = .ok (.aload_n 0, 1) := by decide +kernel
theorem dX7_chase_9 : decode cX7_chase 9 = .ok (.iload_n 2, 1) := by decide +kernel
theorem dX7_chase_10 : decode cX7_chase 10 = .ok (.invokevirtual 140, 3) := by decide +kernel
theorem dX7_chase_13 : decode cX7_chase 13 = .ok (.astore 6, 2) := by decide +kernel
theorem dX7_chase_15 : decode cX7_chase 15 = .ok (.aload 5, 2) := by decide +kernel
theorem dX7_chase_17 : decode cX7_chase 17 = .ok (.ifnull 19, 3) := by decide +kernel
theorem dX7_chase_20 : decode cX7_chase 20 = .ok (.aload 6, 2) := by decide +kernel
theorem dX7_chase_22 : decode cX7_chase 22 = .ok (.ifnull 14, 3) := by decide +kernel
theorem dX7_chase_25 : decode cX7_chase 25 = .ok (.iload 4, 2) := by decide +kernel
theorem dX7_chase_27 : decode cX7_chase 27 = .ok (.iconst 0, 1) := by decide +kernel
theorem dX7_chase_28 : decode cX7_chase 28 = .ok (.bipush 60, 2) := by decide +kernel
theorem dX7_chase_30 : decode cX7_chase 30 = .ok (.invokestatic 57, 3) := by decide +kernel
theorem dX7_chase_33 : decode cX7_chase 33 = .ok (.ifCond .ne 6, 3) := by decide +kernel
theorem dX7_chase_36 : decode cX7_chase 36 = .ok (.ldc 61, 2) := by decide +kernel
theorem dX7_chase_38 : decode cX7_chase 38 = .ok (.ireturn, 1) := by decide +kernel
theorem dX7_chase_39 : decode cX7_chase 39 = .ok (.iload_n 3, 1) := by decide +kernel
theorem dX7_chase_40 : decode cX7_chase 40 = .ok (.istore 7, 2) := by decide +kernel
theorem dX7_chase_42 : decode cX7_chase 42 = .ok (.iconst 0, 1) := by decide +kernel
theorem dX7_chase_43 : decode cX7_chase 43 = .ok (.istore 8, 2) := by decide +kernel
theorem dX7_chase_45 : decode cX7_chase 45 = .ok (.iload 8, 2) := by decide +kernel
theorem dX7_chase_47 : decode cX7_chase 47 = .ok (.iload 4, 2) := by decide +kernel
theorem dX7_chase_49 : decode cX7_chase 49 = .ok (.if_icmp .ge 42, 3) := by decide +kernel
theorem dX7_chase_52 : decode cX7_chase 52 = .ok (.iload 7, 2) := by decide +kernel
theorem dX7_chase_54 : decode cX7_chase 54 = .ok (.ldc 247, 2) := by decide +kernel
theorem dX7_chase_56 : decode cX7_chase 56 = .ok (.if_icmp .eq 35, 3) := by decide +kernel
theorem dX7_chase_59 : decode cX7_chase 59 = .ok (.iload 8, 2) := by decide +kernel
theorem dX7_chase_61 : decode cX7_chase 61 = .ok (.iconst 2, 1) := by decide +kernel
theorem dX7_chase_62 : decode cX7_chase 62 = .ok (.irem, 1) := by decide +kernel
theorem dX7_chase_63 : decode cX7_chase 63 = .ok (.ifCond .ne 13, 3) := by decide +kernel
theorem dX7_chase_66 : decode cX7_chase 66 = .ok (.aload 5, 2) := by decide +kernel
theorem dX7_chase_68 : decode cX7_chase 68 = .ok (.iload 7, 2) := by decide +kernel
theorem dX7_chase_70 : decode cX7_chase 70 = .ok (.invokevirtual 173, 3) := by decide +kernel
theorem dX7_chase_73 : decode cX7_chase 73 = .ok (.goto 10, 3) := by decide +kernel
theorem dX7_chase_76 : decode cX7_chase 76 = .ok (.aload 6, 2) := by decide +kernel
theorem dX7_chase_78 : decode cX7_chase 78 = .ok (.iload 7, 2) := by decide +kernel
theorem dX7_chase_80 : decode cX7_chase 80 = .ok (.invokevirtual 173, 3) := by decide +kernel
theorem dX7_chase_83 : decode cX7_chase 83 = .ok (.istore 7, 2) := by decide +kernel
theorem dX7_chase_85 : decode cX7_chase 85 = .ok (.iinc 8 1, 3) := by decide +kernel
theorem dX7_chase_88 : decode cX7_chase 88 = .ok (.goto (-43), 3) := by decide +kernel
theorem dX7_chase_91 : decode cX7_chase 91 = .ok (.iload 7, 2) := by decide +kernel
theorem dX7_chase_93 : decode cX7_chase 93 = .ok (.ireturn, 1) := by decide +kernel
theorem dX7_meet_0 : decode cX7_meet 0 = .ok (.aload_n 0, 1) := by decide +kernel
theorem dX7_meet_1 : decode cX7_meet 1 = .ok (.getfield 42, 3) := by decide +kernel
theorem dX7_meet_4 : decode cX7_meet 4 = .ok (.ifnull 14, 3) := by decide +kernel
theorem dX7_meet_7 : decode cX7_meet 7 = .ok (.aload_n 0, 1) := by decide +kernel
theorem dX7_meet_8 : decode cX7_meet 8 = .ok (.getfield 42, 3) := by decide +kernel
theorem dX7_meet_11 : decode cX7_meet 11 = .ok (.iload_n 1, 1) := by decide +kernel
theorem dX7_meet_12 : decode cX7_meet 12 = .ok (.invokevirtual 248, 3) := by decide +kernel
theorem dX7_meet_15 : decode cX7_meet 15 = .ok (.ifCond .ne 8, 3) := by decide +kernel
theorem dX7_meet_18 : decode cX7_meet 18 = .ok (.ldc 61, 2) := by decide +kernel
theorem dX7_meet_20 : decode cX7_meet 20 = .ok (.goto 11, 3) := by decide +kernel
theorem dX7_meet_23 : decode cX7_meet 23 = .ok (.aload_n 0, 1) := by decide +kernel
theorem dX7_meet_24 : decode cX7_meet 24 = .ok (.getfield 42, 3) := by decide +kernel
theorem dX7_meet_27 : decode cX7_meet 27 = .ok (.iload_n 1, 1) := by decide +kernel
theorem dX7_meet_28 : decode cX7_meet 28 = .ok (.invokevirtual 249, 3) := by decide +kernel
theorem dX7_meet_31 : decode cX7_meet 31 = .ok (.ireturn, 1) := by decide +kernel
theorem dX7_cover_0 : decode cX7_cover 0 = .ok (.aload_n 0, 1) := by decide +kernel
theorem dX7_cover_1 : decode cX7_cover 1 = .ok (.getfield 42, 3) := by decide +kernel
theorem dX7_cover_4 : decode cX7_cover 4 = .ok (.ifnull 39, 3) := by decide +kernel
theorem dX7_cover_7 : decode cX7_cover 7 = .ok (.aload_n 0, 1) := by decide +kernel
theorem dX7_cover_8 : decode cX7_cover 8 = .ok (.getfield 42, 3) := by decide +kernel
theorem dX7_cover_11 : decode cX7_cover 11 = .ok (.iload_n 1, 1) := by decide +kernel
theorem dX7_cover_12 : decode cX7_cover 12 = .ok (.invokevirtual 248, 3) := by decide +kernel
theorem dX7_cover_15 : decode cX7_cover 15 = .ok (.ifCond .eq 28, 3) := by decide +kernel
theorem dX7_cover_18 : decode cX7_cover 18 = .ok (.aload_n 0, 1) := by decide +kernel
theorem dX7_cover_19 : decode cX7_cover 19 = .ok (.getfield 42, 3) := by decide +kernel
theorem dX7_cover_22 : decode cX7_cover 22 = .ok (.iload_n 2, 1) := by decide +kernel
theorem dX7_cover_23 : decode cX7_cover 23 = .ok (.invokevirtual 248, 3) := by decide +kernel
theorem dX7_cover_26 : decode cX7_cover 26 = .ok (.ifCond .eq 17, 3) := by decide +kernel
theorem dX7_cover_29 : decode cX7_cover 29 = .ok (.iload_n 1, 1) := by decide +kernel
theorem dX7_cover_30 : decode cX7_cover 30 = .ok (.iload_n 2, 1) := by decide +kernel
theorem dX7_cover_31 : decode cX7_cover 31 = .ok (.if_icmp .gt 12, 3) := by decide +kernel
theorem dX7_cover_34 : decode cX7_cover 34 = .ok (.iload_n 3, 1) := by decide +kernel
theorem dX7_cover_35 : decode cX7_cover 35 = .ok (.iconst 0, 1) := by decide +kernel
theorem dX7_cover_36 : decode cX7_cover 36 = .ok (.iconst 1, 1) := by decide +kernel
theorem dX7_cover_37 : decode cX7_cover 37 = .ok (.invokestatic 57, 3) := by decide +kernel
theorem dX7_cover_40 : decode cX7_cover 40 = .ok (.ifCond .ne 6, 3) := by decide +kernel
theorem dX7_cover_43 : decode cX7_cover 43 = .ok (.ldc 61, 2) := by decide +kernel
theorem dX7_cover_45 : decode cX7_cover 45 = .ok (.ireturn, 1) := by decide +kernel
theorem dX7_cover_46 : decode cX7_cover 46 = .ok (.aload_n 0, 1) := by decide +kernel
theorem dX7_cover_47 : decode cX7_cover 47 = .ok (.getfield 42, 3) := by decide +kernel
theorem dX7_cover_50 : decode cX7_cover 50 = .ok (.iload_n 1, 1) := by decide +kernel
theorem dX7_cover_51 : decode cX7_cover 51 = .ok (.iload_n 2, 1) := by decide +kernel
theorem dX7_cover_52 : decode cX7_cover 52 = .ok (.invokevirtual 252, 3) := by decide +kernel
theorem dX7_cover_55 : decode cX7_cover 55 = .ok (.istore 4, 2) := by decide +kernel
theorem dX7_cover_57 : decode cX7_cover 57 = .ok (.iload 4, 2) := by decide +kernel
theorem dX7_cover_59 : decode cX7_cover 59 = .ok (.ifCond .ne 6, 3) := by decide +kernel
theorem dX7_cover_62 : decode cX7_cover 62 = .ok (.ldc 247, 2) := by decide +kernel
theorem dX7_cover_64 : decode cX7_cover 64 = .ok (.ireturn, 1) := by decide +kernel
theorem dX7_cover_65 : decode cX7_cover 65 = .ok (.iload_n 3, 1) := by decide +kernel
theorem dX7_cover_66 : decode cX7_cover 66 = .ok (.ifCond .ne 11, 3) := by decide +kernel
theorem dX7_cover_69 : decode cX7_cover 69 = .ok (.iload 4, 2) := by decide +kernel
theorem dX7_cover_71 : decode cX7_cover 71 = .ok (.invokestatic 218, 3) := by decide +kernel
theorem dX7_cover_74 : decode cX7_cover 74 = .ok (.goto 5, 3) := by decide +kernel
theorem dX7_cover_77 : decode cX7_cover 77 = .ok (.iload 4, 2) := by decide +kernel
theorem dX7_cover_79 : decode cX7_cover 79 = .ok (.ireturn, 1) := by decide +kernel
theorem dX7_gap_0 : decode cX7_gap 0 = .ok (.aload_n 0, 1) := by decide +kernel
theorem dX7_gap_1 : decode cX7_gap 1 = .ok (.iload_n 1, 1) := by decide +kernel
theorem dX7_gap_2 : decode cX7_gap 2 = .ok (.invokevirtual 140, 3) := by decide +kernel
theorem dX7_gap_5 : decode cX7_gap 5 = .ok (.astore_n 3, 1) := by decide +kernel
theorem dX7_gap_6 : decode cX7_gap 6 = .ok (.aload_n 3, 1) := by decide +kernel
theorem dX7_gap_7 : decode cX7_gap 7 = .ok (.ifnull 12, 3) := by decide +kernel
theorem dX7_gap_10 : decode cX7_gap 10 = .ok (.iload_n 2, 1) := by decide +kernel
theorem dX7_gap_11 : decode cX7_gap 11 = .ok (.iconst 0, 1) := by decide +kernel
theorem dX7_gap_12 : decode cX7_gap 12 = .ok (.iconst 1, 1) := by decide +kernel
theorem dX7_gap_13 : decode cX7_gap 13 = .ok (.invokestatic 57, 3) := by decide +kernel
theorem dX7_gap_16 : decode cX7_gap 16 = .ok (.ifCond .ne 6, 3) := by decide +kernel
theorem dX7_gap_19 : decode cX7_gap 19 = .ok (.ldc 61, 2) := by decide +kernel
theorem dX7_gap_21 : decode cX7_gap 21 = .ok (.ireturn, 1) := by decide +kernel
theorem dX7_gap_22 : decode cX7_gap 22 = .ok (.aload_n 3, 1) := by decide +kernel
theorem dX7_gap_23 : decode cX7_gap 23 = .ok (.invokevirtual 255, 3) := by decide +kernel
theorem dX7_gap_26 : decode cX7_gap 26 = .ok (.istore 4, 2) := by decide +kernel
theorem dX7_gap_28 : decode cX7_gap 28 = .ok (.iload 4, 2) := by decide +kernel
theorem dX7_gap_30 : decode cX7_gap 30 = .ok (.ldc 247, 2) := by decide +kernel
theorem dX7_gap_32 : decode cX7_gap 32 = .ok (.if_icmp .eq 7, 3) := by decide +kernel
theorem dX7_gap_35 : decode cX7_gap 35 = .ok (.iload_n 2, 1) := by decide +kernel
theorem dX7_gap_36 : decode cX7_gap 36 = .ok (.ifCond .ne 8, 3) := by decide +kernel
theorem dX7_gap_39 : decode cX7_gap 39 = .ok (.iload 4, 2) := by decide +kernel
theorem dX7_gap_41 : decode cX7_gap 41 = .ok (.goto 14, 3) := by decide +kernel
theorem dX7_gap_44 : decode cX7_gap 44 = .ok (.aload_n 3, 1) := by decide +kernel
theorem dX7_gap_45 : decode cX7_gap 45 = .ok (.iload 4, 2) := by decide +kernel
theorem dX7_gap_47 : decode cX7_gap 47 = .ok (.iconst 1, 1) := by decide +kernel
theorem dX7_gap_48 : decode cX7_gap 48 = .ok (.iadd, 1) := by decide +kernel
theorem dX7_gap_49 : decode cX7_gap 49 = .ok (.invokevirtual 176, 3) := by decide +kernel
theorem dX7_gap_52 : decode cX7_gap 52 = .ok (.iload 4, 2) := by decide +kernel
theorem dX7_gap_54 : decode cX7_gap 54 = .ok (.isub, 1) := by decide +kernel
theorem dX7_gap_55 : decode cX7_gap 55 = .ok (.ireturn, 1) := by decide +kernel
theorem dX7_likely_0 : decode cX7_likely 0 = .ok (.aload_n 0, 1) := by decide +kernel
theorem dX7_likely_1 : decode cX7_likely 1 = .ok (.iload_n 1, 1) := by decide +kernel
theorem dX7_likely_2 : decode cX7_likely 2 = .ok (.iload_n 2, 1) := by decide +kernel
theorem dX7_likely_3 : decode cX7_likely 3 = .ok (.invokevirtual 124, 3) := by decide +kernel
theorem dX7_likely_6 : decode cX7_likely 6 = .ok (.astore 6, 2) := by decide +kernel
theorem dX7_likely_8 : decode cX7_likely 8 = .ok (.aload 6, 2) := by decide +kernel
theorem dX7_likely_10 : decode cX7_likely 10 = .ok (.ifnull 33, 3) := by decide +kernel
theorem dX7_likely_13 : decode cX7_likely 13 = .ok (.aload 6, 2) := by decide +kernel
theorem dX7_likely_15 : decode cX7_likely 15 = .ok (.iload_n 3, 1) := by decide +kernel
theorem dX7_likely_16 : decode cX7_likely 16 = .ok (.invokevirtual 137, 3) := by decide +kernel
theorem dX7_likely_19 : decode cX7_likely 19 = .ok (.ifCond .eq 24, 3) := by decide +kernel
theorem dX7_likely_22 : decode cX7_likely 22 = .ok (.iload 4, 2) := by decide +kernel
theorem dX7_likely_24 : decode cX7_likely 24 = .ok (.iconst 0, 1) := by decide +kernel
theorem dX7_likely_25 : decode cX7_likely 25 = .ok (.bipush 10, 2) := by decide +kernel
theorem dX7_likely_27 : decode cX7_likely 27 = .ok (.invokestatic 57, 3) := by decide +kernel
theorem dX7_likely_30 : decode cX7_likely 30 = .ok (.ifCond .eq 13, 3) := by decide +kernel
theorem dX7_likely_33 : decode cX7_likely 33 = .ok (.iload 5, 2) := by decide +kernel
theorem dX7_likely_35 : decode cX7_likely 35 = .ok (.iconst 0, 1) := by decide +kernel
theorem dX7_likely_36 : decode cX7_likely 36 = .ok (.iconst 1, 1) := by decide +kernel
theorem dX7_likely_37 : decode cX7_likely 37 = .ok (.invokestatic 57, 3) := by decide +kernel
theorem dX7_likely_40 : decode cX7_likely 40 = .ok (.ifCond .ne 7, 3) := by decide +kernel
theorem dX7_likely_43 : decode cX7_likely 43 = .ok (.ldc2_w 258, 3) := by decide +kernel
theorem dX7_likely_46 : decode cX7_likely 46 = .ok (.lreturn, 1) := by decide +kernel
theorem dX7_likely_47 : decode cX7_likely 47 = .ok (.aload 6, 2) := by decide +kernel
theorem dX7_likely_49 : decode cX7_likely 49 = .ok (.iload_n 2, 1) := by decide +kernel
theorem dX7_likely_50 : decode cX7_likely 50 = .ok (.iconst 1, 1) := by decide +kernel
theorem dX7_likely_51 : decode cX7_likely 51 = .ok (.iadd, 1) := by decide +kernel
theorem dX7_likely_52 : decode cX7_likely 52 = .ok (.iload_n 3, 1) := by decide +kernel
theorem dX7_likely_53 : decode cX7_likely 53 = .ok (.iconst 1, 1) := by decide +kernel
theorem dX7_likely_54 : decode cX7_likely 54 = .ok (.isub, 1) := by decide +kernel
theorem dX7_likely_55 : decode cX7_likely 55 = .ok (.invokevirtual 238, 3) := by decide +kernel
theorem dX7_likely_58 : decode cX7_likely 58 = .ok (.istore 7, 2) := by decide +kernel
theorem dX7_likely_60 : decode cX7_likely 60 = .ok (.aload 6, 2) := by decide +kernel
theorem dX7_likely_62 : decode cX7_likely 62 = .ok (.iload_n 3, 1) := by decide +kernel
theorem dX7_likely_63 : decode cX7_likely 63 = .ok (.invokevirtual 128, 3) := by decide +kernel
theorem dX7_likely_66 : decode cX7_likely 66 = .ok (.ifCond .eq 15, 3) := by decide +kernel
theorem dX7_likely_69 : decode cX7_likely 69 = .ok (.iload_n 3, 1) := by decide +kernel
theorem dX7_likely_70 : decode cX7_likely 70 = .ok (.iload_n 2, 1) := by decide +kernel
theorem dX7_likely_71 : decode cX7_likely 71 = .ok (.if_icmp .le 10, 3) := by decide +kernel
theorem dX7_likely_74 : decode cX7_likely 74 = .ok (.iload 7, 2) := by decide +kernel
theorem dX7_likely_76 : decode cX7_likely 76 = .ok (.bipush 16, 2) := by decide +kernel
theorem dX7_likely_78 : decode cX7_likely 78 = .ok (.if_icmp .le 7, 3) := by decide +kernel
theorem dX7_likely_81 : decode cX7_likely 81 = .ok (.ldc2_w 260, 3) := by decide +kernel
theorem dX7_likely_84 : decode cX7_likely 84 = .ok (.lreturn, 1) := by decide +kernel
theorem dX7_likely_85 : decode cX7_likely 85 = .ok (.bipush 10, 2) := by decide +kernel
theorem dX7_likely_87 : decode cX7_likely 87 = .ok (.iload 4, 2) := by decide +kernel
theorem dX7_likely_89 : decode cX7_likely 89 = .ok (.isub, 1) := by decide +kernel
theorem dX7_likely_90 : decode cX7_likely 90 = .ok (.i2l, 1) := by decide +kernel
theorem dX7_likely_91 : decode cX7_likely 91 = .ok (.lstore 8, 2) := by decide +kernel
theorem dX7_likely_93 : decode cX7_likely 93 = .ok (.ldc2_w 262, 3) := by decide +kernel
theorem dX7_likely_96 : decode cX7_likely 96 = .ok (.lstore 10, 2) := by decide +kernel
theorem dX7_likely_98 : decode cX7_likely 98 = .ok (.iconst 0, 1) := by decide +kernel
theorem dX7_likely_99 : decode cX7_likely 99 = .ok (.istore 12, 2) := by decide +kernel
theorem dX7_likely_101 : decode cX7_likely 101 = .ok (.iload 12, 2) := by decide +kernel
theorem dX7_likely_103 : decode cX7_likely 103 = .ok (.iload 7, 2) := by decide +kernel
theorem dX7_likely_105 : decode cX7_likely 105 = .ok (.if_icmp .ge 25, 3) := by decide +kernel
theorem dX7_likely_108 : decode cX7_likely 108 = .ok (.lload 8, 2) := by decide +kernel
theorem dX7_likely_110 : decode cX7_likely 110 = .ok (.iload 4, 2) := by decide +kernel
theorem dX7_likely_112 : decode cX7_likely 112 = .ok (.i2l, 1) := by decide +kernel
theorem dX7_likely_113 : decode cX7_likely 113 = .ok (.lmul, 1) := by decide +kernel
theorem dX7_likely_114 : decode cX7_likely 114 = .ok (.lstore 8, 2) := by decide +kernel
theorem dX7_likely_116 : decode cX7_likely 116 = .ok (.lload 10, 2) := by decide +kernel
theorem dX7_likely_118 : decode cX7_likely 118 = .ok (.ldc2_w 262, 3) := by decide +kernel
theorem dX7_likely_121 : decode cX7_likely 121 = .ok (.lmul, 1) := by decide +kernel
theorem dX7_likely_122 : decode cX7_likely 122 = .ok (.lstore 10, 2) := by decide +kernel
theorem dX7_likely_124 : decode cX7_likely 124 = .ok (.iinc 12 1, 3) := by decide +kernel
theorem dX7_likely_127 : decode cX7_likely 127 = .ok (.goto (-26), 3) := by decide +kernel
theorem dX7_likely_130 : decode cX7_likely 130 = .ok (.iload 5, 2) := by decide +kernel
theorem dX7_likely_132 : decode cX7_likely 132 = .ok (.ifCond .ne 8, 3) := by decide +kernel
theorem dX7_likely_135 : decode cX7_likely 135 = .ok (.lload 8, 2) := by decide +kernel
theorem dX7_likely_137 : decode cX7_likely 137 = .ok (.goto 5, 3) := by decide +kernel
theorem dX7_likely_140 : decode cX7_likely 140 = .ok (.lload 10, 2) := by decide +kernel
theorem dX7_likely_142 : decode cX7_likely 142 = .ok (.lload 8, 2) := by decide +kernel
theorem dX7_likely_144 : decode cX7_likely 144 = .ok (.lload 10, 2) := by decide +kernel
theorem dX7_likely_146 : decode cX7_likely 146 = .ok (.invokestatic 264, 3) := by decide +kernel
theorem dX7_likely_149 : decode cX7_likely 149 = .ok (.ldiv, 1) := by decide +kernel
theorem dX7_likely_150 : decode cX7_likely 150 = .ok (.lreturn, 1) := by decide +kernel
theorem dX7_drawn_0 : decode cX7_drawn 0 = .ok (.aload_n 0, 1) := by decide +kernel
theorem dX7_drawn_1 : decode cX7_drawn 1 = .ok (.getfield 42, 3) := by decide +kernel
theorem dX7_drawn_4 : decode cX7_drawn 4 = .ok (.ifnonnull 6, 3) := by decide +kernel
theorem dX7_drawn_7 : decode cX7_drawn 7 = .ok (.ldc 120, 2) := by decide +kernel
theorem dX7_drawn_9 : decode cX7_drawn 9 = .ok (.ireturn, 1) := by decide +kernel
theorem dX7_drawn_10 : decode cX7_drawn 10 = .ok (.iload_n 1, 1) := by decide +kernel
theorem dX7_drawn_11 : decode cX7_drawn 11 = .ok (.iconst 0, 1) := by decide +kernel
theorem dX7_drawn_12 : decode cX7_drawn 12 = .ok (.sipush 200, 3) := by decide +kernel
theorem dX7_drawn_15 : decode cX7_drawn 15 = .ok (.invokestatic 57, 3) := by decide +kernel
theorem dX7_drawn_18 : decode cX7_drawn 18 = .ok (.ifCond .eq 23, 3) := by decide +kernel
theorem dX7_drawn_21 : decode cX7_drawn 21 = .ok (.iload_n 2, 1) := by decide +kernel
theorem dX7_drawn_22 : decode cX7_drawn 22 = .ok (.iconst 1, 1) := by decide +kernel
theorem dX7_drawn_23 : decode cX7_drawn 23 = .ok (.ldc_w 268, 3) := by decide +kernel
theorem dX7_drawn_26 : decode cX7_drawn 26 = .ok (.invokestatic 57, 3) := by decide +kernel
theorem dX7_drawn_29 : decode cX7_drawn 29 = .ok (.ifCond .eq 12, 3) := by decide +kernel
theorem dX7_drawn_32 : decode cX7_drawn 32 = .ok (.iload_n 3, 1) := by decide +kernel
theorem dX7_drawn_33 : decode cX7_drawn 33 = .ok (.iconst 0, 1) := by decide +kernel
theorem dX7_drawn_34 : decode cX7_drawn 34 = .ok (.iconst 1, 1) := by decide +kernel
theorem dX7_drawn_35 : decode cX7_drawn 35 = .ok (.invokestatic 57, 3) := by decide +kernel
theorem dX7_drawn_38 : decode cX7_drawn 38 = .ok (.ifCond .ne 6, 3) := by decide +kernel
theorem dX7_drawn_41 : decode cX7_drawn 41 = .ok (.ldc 61, 2) := by decide +kernel
theorem dX7_drawn_43 : decode cX7_drawn 43 = .ok (.ireturn, 1) := by decide +kernel
theorem dX7_drawn_44 : decode cX7_drawn 44 = .ok (.aload_n 0, 1) := by decide +kernel
theorem dX7_drawn_45 : decode cX7_drawn 45 = .ok (.getfield 42, 3) := by decide +kernel
theorem dX7_drawn_48 : decode cX7_drawn 48 = .ok (.invokevirtual 269, 3) := by decide +kernel
theorem dX7_drawn_51 : decode cX7_drawn 51 = .ok (.astore 4, 2) := by decide +kernel
theorem dX7_drawn_53 : decode cX7_drawn 53 = .ok (.aload 4, 2) := by decide +kernel
theorem dX7_drawn_55 : decode cX7_drawn 55 = .ok (.iload_n 1, 1) := by decide +kernel
theorem dX7_drawn_56 : decode cX7_drawn 56 = .ok (.iload_n 2, 1) := by decide +kernel
theorem dX7_drawn_57 : decode cX7_drawn 57 = .ok (.invokevirtual 272, 3) := by decide +kernel
theorem dX7_drawn_60 : decode cX7_drawn 60 = .ok (.iload_n 3, 1) := by decide +kernel
theorem dX7_drawn_61 : decode cX7_drawn 61 = .ok (.ifCond .ne 11, 3) := by decide +kernel
theorem dX7_drawn_64 : decode cX7_drawn 64 = .ok (.aload 4, 2) := by decide +kernel
theorem dX7_drawn_66 : decode cX7_drawn 66 = .ok (.invokevirtual 275, 3) := by decide +kernel
theorem dX7_drawn_69 : decode cX7_drawn 69 = .ok (.goto 8, 3) := by decide +kernel
theorem dX7_drawn_72 : decode cX7_drawn 72 = .ok (.aload 4, 2) := by decide +kernel
theorem dX7_drawn_74 : decode cX7_drawn 74 = .ok (.invokevirtual 278, 3) := by decide +kernel
theorem dX7_drawn_77 : decode cX7_drawn 77 = .ok (.ireturn, 1) := by decide +kernel
theorem dX7_image_0 : decode cX7_image 0 = .ok (.iload_n 1, 1) := by decide +kernel
theorem dX7_image_1 : decode cX7_image 1 = .ok (.iconst 0, 1) := by decide +kernel
theorem dX7_image_2 : decode cX7_image 2 = .ok (.iconst 1, 1) := by decide +kernel
theorem dX7_image_3 : decode cX7_image 3 = .ok (.invokestatic 57, 3) := by decide +kernel
theorem dX7_image_6 : decode cX7_image 6 = .ok (.ifCond .ne 6, 3) := by decide +kernel
theorem dX7_image_9 : decode cX7_image 9 = .ok (.ldc 61, 2) := by decide +kernel
theorem dX7_image_11 : decode cX7_image 11 = .ok (.ireturn, 1) := by decide +kernel
theorem dX7_image_12 : decode cX7_image 12 = .ok (.aload_n 0, 1) := by decide +kernel
theorem dX7_image_13 : decode cX7_image 13 = .ok (.getfield 42, 3) := by decide +kernel
theorem dX7_image_16 : decode cX7_image 16 = .ok (.ifnonnull 6, 3) := by decide +kernel
theorem dX7_image_19 : decode cX7_image 19 = .ok (.ldc 120, 2) := by decide +kernel
theorem dX7_image_21 : decode cX7_image 21 = .ok (.ireturn, 1) := by decide +kernel
theorem dX7_image_22 : decode cX7_image 22 = .ok (.aload_n 0, 1) := by decide +kernel
theorem dX7_image_23 : decode cX7_image 23 = .ok (.getfield 24, 3) := by decide +kernel
theorem dX7_image_26 : decode cX7_image 26 = .ok (.iload_n 1, 1) := by decide +kernel
theorem dX7_image_27 : decode cX7_image 27 = .ok (.aload_n 0, 1) := by decide +kernel
theorem dX7_image_28 : decode cX7_image 28 = .ok (.getfield 42, 3) := by decide +kernel
theorem dX7_image_31 : decode cX7_image 31 = .ok (.invokevirtual 269, 3) := by decide +kernel
theorem dX7_image_34 : decode cX7_image 34 = .ok (.aastore, 1) := by decide +kernel
theorem dX7_image_35 : decode cX7_image 35 = .ok (.iconst 1, 1) := by decide +kernel
theorem dX7_image_36 : decode cX7_image 36 = .ok (.ireturn, 1) := by decide +kernel
theorem dX7_restore_0 : decode cX7_restore 0 = .ok (.iload_n 1, 1) := by decide +kernel
theorem dX7_restore_1 : decode cX7_restore 1 = .ok (.iconst 0, 1) := by decide +kernel
theorem dX7_restore_2 : decode cX7_restore 2 = .ok (.iconst 1, 1) := by decide +kernel
theorem dX7_restore_3 : decode cX7_restore 3 = .ok (.invokestatic 57, 3) := by decide +kernel
theorem dX7_restore_6 : decode cX7_restore 6 = .ok (.ifCond .ne 6, 3) := by decide +kernel
theorem dX7_restore_9 : decode cX7_restore 9 = .ok (.ldc 61, 2) := by decide +kernel
theorem dX7_restore_11 : decode cX7_restore 11 = .ok (.ireturn, 1) := by decide +kernel
theorem dX7_restore_12 : decode cX7_restore 12 = .ok (.aload_n 0, 1) := by decide +kernel
theorem dX7_restore_13 : decode cX7_restore 13 = .ok (.getfield 24, 3) := by decide +kernel
theorem dX7_restore_16 : decode cX7_restore 16 = .ok (.iload_n 1, 1) := by decide +kernel
theorem dX7_restore_17 : decode cX7_restore 17 = .ok (.aaload, 1) := by decide +kernel
theorem dX7_restore_18 : decode cX7_restore 18 = .ok (.astore_n 2, 1) := by decide +kernel
theorem dX7_restore_19 : decode cX7_restore 19 = .ok (.aload_n 2, 1) := by decide +kernel
theorem dX7_restore_20 : decode cX7_restore 20 = .ok (.ifnonnull 6, 3) := by decide +kernel
theorem dX7_restore_23 : decode cX7_restore 23 = .ok (.ldc 120, 2) := by decide +kernel
theorem dX7_restore_25 : decode cX7_restore 25 = .ok (.ireturn, 1) := by decide +kernel
theorem dX7_restore_26 : decode cX7_restore 26 = .ok (.aload_n 0, 1) := by decide +kernel
theorem dX7_restore_27 : decode cX7_restore 27 = .ok (.aload_n 2, 1) := by decide +kernel
theorem dX7_restore_28 : decode cX7_restore 28 = .ok (.invokevirtual 269, 3) := by decide +kernel
theorem dX7_restore_31 : decode cX7_restore 31 = .ok (.putfield 42, 3) := by decide +kernel
theorem dX7_restore_34 : decode cX7_restore 34 = .ok (.aload_n 0, 1) := by decide +kernel
theorem dX7_restore_35 : decode cX7_restore 35 = .ok (.getfield 31, 3) := by decide +kernel
theorem dX7_restore_38 : decode cX7_restore 38 = .ok (.invokevirtual 111, 3) := by decide +kernel
theorem dX7_restore_41 : decode cX7_restore 41 = .ok (.iconst 1, 1) := by decide +kernel
theorem dX7_restore_42 : decode cX7_restore 42 = .ok (.ireturn, 1) := by decide +kernel
theorem dX7_kind_0 : decode cX7_kind 0 = .ok (.aload_n 0, 1) := by decide +kernel
theorem dX7_kind_1 : decode cX7_kind 1 = .ok (.iload_n 1, 1) := by decide +kernel
theorem dX7_kind_2 : decode cX7_kind 2 = .ok (.invokevirtual 140, 3) := by decide +kernel
theorem dX7_kind_5 : decode cX7_kind 5 = .ok (.astore_n 2, 1) := by decide +kernel
theorem dX7_kind_6 : decode cX7_kind 6 = .ok (.aload_n 2, 1) := by decide +kernel
theorem dX7_kind_7 : decode cX7_kind 7 = .ok (.ifnonnull 8, 3) := by decide +kernel
theorem dX7_kind_10 : decode cX7_kind 10 = .ok (.ldc 61, 2) := by decide +kernel
theorem dX7_kind_12 : decode cX7_kind 12 = .ok (.goto 7, 3) := by decide +kernel
theorem dX7_kind_15 : decode cX7_kind 15 = .ok (.aload_n 2, 1) := by decide +kernel
theorem dX7_kind_16 : decode cX7_kind 16 = .ok (.getfield 281, 3) := by decide +kernel
theorem dX7_kind_19 : decode cX7_kind 19 = .ok (.ireturn, 1) := by decide +kernel
theorem dX7_as_0 : decode cX7_as 0 = .ok (.aload_n 0, 1) := by decide +kernel
theorem dX7_as_1 : decode cX7_as 1 = .ok (.iload_n 1, 1) := by decide +kernel
theorem dX7_as_2 : decode cX7_as 2 = .ok (.invokevirtual 140, 3) := by decide +kernel
theorem dX7_as_5 : decode cX7_as 5 = .ok (.astore_n 3, 1) := by decide +kernel
theorem dX7_as_6 : decode cX7_as 6 = .ok (.aload_n 3, 1) := by decide +kernel
theorem dX7_as_7 : decode cX7_as 7 = .ok (.ifnull 12, 3) := by decide +kernel
theorem dX7_as_10 : decode cX7_as 10 = .ok (.iload_n 2, 1) := by decide +kernel
theorem dX7_as_11 : decode cX7_as 11 = .ok (.iconst 0, 1) := by decide +kernel
theorem dX7_as_12 : decode cX7_as 12 = .ok (.iconst 5, 1) := by decide +kernel
theorem dX7_as_13 : decode cX7_as 13 = .ok (.invokestatic 57, 3) := by decide +kernel
theorem dX7_as_16 : decode cX7_as 16 = .ok (.ifCond .ne 6, 3) := by decide +kernel
theorem dX7_as_19 : decode cX7_as 19 = .ok (.ldc 61, 2) := by decide +kernel
theorem dX7_as_21 : decode cX7_as 21 = .ok (.ireturn, 1) := by decide +kernel
theorem dX7_as_22 : decode cX7_as 22 = .ok (.aload_n 3, 1) := by decide +kernel
theorem dX7_as_23 : decode cX7_as 23 = .ok (.getfield 281, 3) := by decide +kernel
theorem dX7_as_26 : decode cX7_as 26 = .ok (.iload_n 2, 1) := by decide +kernel
theorem dX7_as_27 : decode cX7_as 27 = .ok (.invokestatic 284, 3) := by decide +kernel
theorem dX7_as_30 : decode cX7_as 30 = .ok (.ifCond .eq 11, 3) := by decide +kernel
theorem dX7_as_33 : decode cX7_as 33 = .ok (.aload_n 0, 1) := by decide +kernel
theorem dX7_as_34 : decode cX7_as 34 = .ok (.iload_n 1, 1) := by decide +kernel
theorem dX7_as_35 : decode cX7_as 35 = .ok (.invokevirtual 69, 3) := by decide +kernel
theorem dX7_as_38 : decode cX7_as 38 = .ok (.goto 8, 3) := by decide +kernel
theorem dX7_as_41 : decode cX7_as 41 = .ok (.aload_n 0, 1) := by decide +kernel
theorem dX7_as_42 : decode cX7_as 42 = .ok (.iconst 3, 1) := by decide +kernel
theorem dX7_as_43 : decode cX7_as 43 = .ok (.invokevirtual 62, 3) := by decide +kernel
theorem dX7_as_46 : decode cX7_as 46 = .ok (.ireturn, 1) := by decide +kernel
theorem dX7_ask_0 : decode cX7_ask 0 = .ok (.aload_n 0, 1) := by decide +kernel
theorem dX7_ask_1 : decode cX7_ask 1 = .ok (.iload_n 1, 1) := by decide +kernel
theorem dX7_ask_2 : decode cX7_ask 2 = .ok (.invokevirtual 140, 3) := by decide +kernel
theorem dX7_ask_5 : decode cX7_ask 5 = .ok (.astore_n 3, 1) := by decide +kernel
theorem dX7_ask_6 : decode cX7_ask 6 = .ok (.aload_n 3, 1) := by decide +kernel
theorem dX7_ask_7 : decode cX7_ask 7 = .ok (.ifnull 12, 3) := by decide +kernel
theorem dX7_ask_10 : decode cX7_ask 10 = .ok (.iload_n 2, 1) := by decide +kernel
theorem dX7_ask_11 : decode cX7_ask 11 = .ok (.iconst 0, 1) := by decide +kernel
theorem dX7_ask_12 : decode cX7_ask 12 = .ok (.iconst 1, 1) := by decide +kernel
theorem dX7_ask_13 : decode cX7_ask 13 = .ok (.invokestatic 57, 3) := by decide +kernel
theorem dX7_ask_16 : decode cX7_ask 16 = .ok (.ifCond .ne 6, 3) := by decide +kernel
theorem dX7_ask_19 : decode cX7_ask 19 = .ok (.ldc 61, 2) := by decide +kernel
theorem dX7_ask_21 : decode cX7_ask 21 = .ok (.ireturn, 1) := by decide +kernel
theorem dX7_ask_22 : decode cX7_ask 22 = .ok (.aload_n 0, 1) := by decide +kernel
theorem dX7_ask_23 : decode cX7_ask 23 = .ok (.getfield 38, 3) := by decide +kernel
theorem dX7_ask_26 : decode cX7_ask 26 = .ok (.aload_n 3, 1) := by decide +kernel
theorem dX7_ask_27 : decode cX7_ask 27 = .ok (.iload_n 2, 1) := by decide +kernel
theorem dX7_ask_28 : decode cX7_ask 28 = .ok (.invokevirtual 287, 3) := by decide +kernel
theorem dX7_ask_31 : decode cX7_ask 31 = .ok (.ireturn, 1) := by decide +kernel
theorem dX7_trace_0 : decode cX7_trace 0 = .ok (.aload_n 0, 1) := by decide +kernel
theorem dX7_trace_1 : decode cX7_trace 1 = .ok (.getfield 38, 3) := by decide +kernel
theorem dX7_trace_4 : decode cX7_trace 4 = .ok (.iload_n 1, 1) := by decide +kernel
theorem dX7_trace_5 : decode cX7_trace 5 = .ok (.invokevirtual 291, 3) := by decide +kernel
theorem dX7_trace_8 : decode cX7_trace 8 = .ok (.ireturn, 1) := by decide +kernel
theorem dX7_count_0 : decode cX7_count 0 = .ok (.iload_n 1, 1) := by decide +kernel
theorem dX7_count_1 : decode cX7_count 1 = .ok (.tableswitch 140 0 6 #[43, 48, 67, 86, 105, 124, 132], 43) := by decide +kernel
theorem dX7_count_44 : decode cX7_count 44 = .ok (.aload_n 0, 1) := by decide +kernel
theorem dX7_count_45 : decode cX7_count 45 = .ok (.invokevirtual 294, 3) := by decide +kernel
theorem dX7_count_48 : decode cX7_count 48 = .ok (.ireturn, 1) := by decide +kernel
theorem dX7_count_49 : decode cX7_count 49 = .ok (.aload_n 0, 1) := by decide +kernel
theorem dX7_count_50 : decode cX7_count 50 = .ok (.getfield 42, 3) := by decide +kernel
theorem dX7_count_53 : decode cX7_count 53 = .ok (.ifnonnull 7, 3) := by decide +kernel
theorem dX7_count_56 : decode cX7_count 56 = .ok (.iconst 0, 1) := by decide +kernel
theorem dX7_count_57 : decode cX7_count 57 = .ok (.goto 10, 3) := by decide +kernel
theorem dX7_count_60 : decode cX7_count 60 = .ok (.aload_n 0, 1) := by decide +kernel
theorem dX7_count_61 : decode cX7_count 61 = .ok (.getfield 42, 3) := by decide +kernel
theorem dX7_count_64 : decode cX7_count 64 = .ok (.getfield 114, 3) := by decide +kernel
theorem dX7_count_67 : decode cX7_count 67 = .ok (.ireturn, 1) := by decide +kernel
theorem dX7_count_68 : decode cX7_count 68 = .ok (.aload_n 0, 1) := by decide +kernel
theorem dX7_count_69 : decode cX7_count 69 = .ok (.getfield 42, 3) := by decide +kernel
theorem dX7_count_72 : decode cX7_count 72 = .ok (.ifnonnull 7, 3) := by decide +kernel
theorem dX7_count_75 : decode cX7_count 75 = .ok (.iconst 0, 1) := by decide +kernel
theorem dX7_count_76 : decode cX7_count 76 = .ok (.goto 10, 3) := by decide +kernel
theorem dX7_count_79 : decode cX7_count 79 = .ok (.aload_n 0, 1) := by decide +kernel
theorem dX7_count_80 : decode cX7_count 80 = .ok (.getfield 42, 3) := by decide +kernel
theorem dX7_count_83 : decode cX7_count 83 = .ok (.getfield 297, 3) := by decide +kernel
theorem dX7_count_86 : decode cX7_count 86 = .ok (.ireturn, 1) := by decide +kernel
theorem dX7_count_87 : decode cX7_count 87 = .ok (.aload_n 0, 1) := by decide +kernel
theorem dX7_count_88 : decode cX7_count 88 = .ok (.getfield 42, 3) := by decide +kernel
theorem dX7_count_91 : decode cX7_count 91 = .ok (.ifnonnull 7, 3) := by decide +kernel
theorem dX7_count_94 : decode cX7_count 94 = .ok (.iconst 0, 1) := by decide +kernel
theorem dX7_count_95 : decode cX7_count 95 = .ok (.goto 10, 3) := by decide +kernel
theorem dX7_count_98 : decode cX7_count 98 = .ok (.aload_n 0, 1) := by decide +kernel
theorem dX7_count_99 : decode cX7_count 99 = .ok (.getfield 42, 3) := by decide +kernel
theorem dX7_count_102 : decode cX7_count 102 = .ok (.invokevirtual 275, 3) := by decide +kernel
theorem dX7_count_105 : decode cX7_count 105 = .ok (.ireturn, 1) := by decide +kernel
theorem dX7_count_106 : decode cX7_count 106 = .ok (.aload_n 0, 1) := by decide +kernel
theorem dX7_count_107 : decode cX7_count 107 = .ok (.getfield 42, 3) := by decide +kernel
theorem dX7_count_110 : decode cX7_count 110 = .ok (.ifnonnull 7, 3) := by decide +kernel
theorem dX7_count_113 : decode cX7_count 113 = .ok (.iconst 0, 1) := by decide +kernel
theorem dX7_count_114 : decode cX7_count 114 = .ok (.goto 10, 3) := by decide +kernel
theorem dX7_count_117 : decode cX7_count 117 = .ok (.aload_n 0, 1) := by decide +kernel
theorem dX7_count_118 : decode cX7_count 118 = .ok (.getfield 42, 3) := by decide +kernel
theorem dX7_count_121 : decode cX7_count 121 = .ok (.invokevirtual 278, 3) := by decide +kernel
theorem dX7_count_124 : decode cX7_count 124 = .ok (.ireturn, 1) := by decide +kernel
theorem dX7_count_125 : decode cX7_count 125 = .ok (.aload_n 0, 1) := by decide +kernel
theorem dX7_count_126 : decode cX7_count 126 = .ok (.getfield 31, 3) := by decide +kernel
theorem dX7_count_129 : decode cX7_count 129 = .ok (.getfield 117, 3) := by decide +kernel
theorem dX7_count_132 : decode cX7_count 132 = .ok (.ireturn, 1) := by decide +kernel
theorem dX7_count_133 : decode cX7_count 133 = .ok (.aload_n 0, 1) := by decide +kernel
theorem dX7_count_134 : decode cX7_count 134 = .ok (.getfield 18, 3) := by decide +kernel
theorem dX7_count_137 : decode cX7_count 137 = .ok (.getfield 93, 3) := by decide +kernel
theorem dX7_count_140 : decode cX7_count 140 = .ok (.ireturn, 1) := by decide +kernel
theorem dX7_count_141 : decode cX7_count 141 = .ok (.ldc 61, 2) := by decide +kernel
theorem dX7_count_143 : decode cX7_count 143 = .ok (.ireturn, 1) := by decide +kernel
theorem dX7_status_0 : decode cX7_status 0 = .ok (.aload_n 0, 1) := by decide +kernel
theorem dX7_status_1 : decode cX7_status 1 = .ok (.getfield 50, 3) := by decide +kernel
theorem dX7_status_4 : decode cX7_status 4 = .ok (.ireturn, 1) := by decide +kernel
theorem dX7_within_0 : decode cX7_within 0 = .ok (.iload_n 0, 1) := by decide +kernel
theorem dX7_within_1 : decode cX7_within 1 = .ok (.iload_n 1, 1) := by decide +kernel
theorem dX7_within_2 : decode cX7_within 2 = .ok (.if_icmp .lt 12, 3) := by decide +kernel
theorem dX7_within_5 : decode cX7_within 5 = .ok (.iload_n 0, 1) := by decide +kernel
theorem dX7_within_6 : decode cX7_within 6 = .ok (.iload_n 2, 1) := by decide +kernel
theorem dX7_within_7 : decode cX7_within 7 = .ok (.if_icmp .gt 7, 3) := by decide +kernel
theorem dX7_within_10 : decode cX7_within 10 = .ok (.iconst 1, 1) := by decide +kernel
theorem dX7_within_11 : decode cX7_within 11 = .ok (.goto 4, 3) := by decide +kernel
theorem dX7_within_14 : decode cX7_within 14 = .ok (.iconst 0, 1) := by decide +kernel
theorem dX7_within_15 : decode cX7_within 15 = .ok (.ireturn, 1) := by decide +kernel
theorem dX7_isRow_0 : decode cX7_isRow 0 = .ok (.iload_n 0, 1) := by decide +kernel
theorem dX7_isRow_1 : decode cX7_isRow 1 = .ok (.iconst 0, 1) := by decide +kernel
theorem dX7_isRow_2 : decode cX7_isRow 2 = .ok (.bipush 7, 2) := by decide +kernel
theorem dX7_isRow_4 : decode cX7_isRow 4 = .ok (.invokestatic 57, 3) := by decide +kernel
theorem dX7_isRow_7 : decode cX7_isRow 7 = .ok (.ireturn, 1) := by decide +kernel
theorem dX7_found_0 : decode cX7_found 0 = .ok (.aload_n 0, 1) := by decide +kernel
theorem dX7_found_1 : decode cX7_found 1 = .ok (.iload_n 1, 1) := by decide +kernel
theorem dX7_found_2 : decode cX7_found 2 = .ok (.putfield 50, 3) := by decide +kernel
theorem dX7_found_5 : decode cX7_found 5 = .ok (.ldc_w 300, 3) := by decide +kernel
theorem dX7_found_8 : decode cX7_found 8 = .ok (.iload_n 1, 1) := by decide +kernel
theorem dX7_found_9 : decode cX7_found 9 = .ok (.isub, 1) := by decide +kernel
theorem dX7_found_10 : decode cX7_found 10 = .ok (.ireturn, 1) := by decide +kernel
theorem dX7_fine_0 : decode cX7_fine 0 = .ok (.aload_n 0, 1) := by decide +kernel
theorem dX7_fine_1 : decode cX7_fine 1 = .ok (.iconst 0, 1) := by decide +kernel
theorem dX7_fine_2 : decode cX7_fine 2 = .ok (.putfield 50, 3) := by decide +kernel
theorem dX7_fine_5 : decode cX7_fine 5 = .ok (.iload_n 1, 1) := by decide +kernel
theorem dX7_fine_6 : decode cX7_fine 6 = .ok (.ireturn, 1) := by decide +kernel
theorem dX7_setAt_0 : decode cX7_setAt 0 = .ok (.aload_n 0, 1) := by decide +kernel
theorem dX7_setAt_1 : decode cX7_setAt 1 = .ok (.getfield 42, 3) := by decide +kernel
theorem dX7_setAt_4 : decode cX7_setAt 4 = .ok (.ifnonnull 7, 3) := by decide +kernel
theorem dX7_setAt_7 : decode cX7_setAt 7 = .ok (.aconst_null, 1) := by decide +kernel
theorem dX7_setAt_8 : decode cX7_setAt 8 = .ok (.goto 11, 3) := by decide +kernel
theorem dX7_setAt_11 : decode cX7_setAt 11 = .ok (.aload_n 0, 1) := by decide +kernel
theorem dX7_setAt_12 : decode cX7_setAt 12 = .ok (.getfield 42, 3) := by decide +kernel
theorem dX7_setAt_15 : decode cX7_setAt 15 = .ok (.iload_n 1, 1) := by decide +kernel
theorem dX7_setAt_16 : decode cX7_setAt 16 = .ok (.invokevirtual 301, 3) := by decide +kernel
theorem dX7_setAt_19 : decode cX7_setAt 19 = .ok (.areturn, 1) := by decide +kernel
theorem dX7_setWith_0 : decode cX7_setWith 0 = .ok (.aload_n 0, 1) := by decide +kernel
theorem dX7_setWith_1 : decode cX7_setWith 1 = .ok (.getfield 42, 3) := by decide +kernel
theorem dX7_setWith_4 : decode cX7_setWith 4 = .ok (.ifnull 14, 3) := by decide +kernel
theorem dX7_setWith_7 : decode cX7_setWith 7 = .ok (.aload_n 0, 1) := by decide +kernel
theorem dX7_setWith_8 : decode cX7_setWith 8 = .ok (.getfield 42, 3) := by decide +kernel
theorem dX7_setWith_11 : decode cX7_setWith 11 = .ok (.iload_n 2, 1) := by decide +kernel
theorem dX7_setWith_12 : decode cX7_setWith 12 = .ok (.invokevirtual 248, 3) := by decide +kernel
theorem dX7_setWith_15 : decode cX7_setWith 15 = .ok (.ifCond .ne 7, 3) := by decide +kernel
theorem dX7_setWith_18 : decode cX7_setWith 18 = .ok (.aconst_null, 1) := by decide +kernel
theorem dX7_setWith_19 : decode cX7_setWith 19 = .ok (.goto 11, 3) := by decide +kernel
theorem dX7_setWith_22 : decode cX7_setWith 22 = .ok (.aload_n 0, 1) := by decide +kernel
theorem dX7_setWith_23 : decode cX7_setWith 23 = .ok (.getfield 42, 3) := by decide +kernel
theorem dX7_setWith_26 : decode cX7_setWith 26 = .ok (.iload_n 1, 1) := by decide +kernel
theorem dX7_setWith_27 : decode cX7_setWith 27 = .ok (.invokevirtual 301, 3) := by decide +kernel
theorem dX7_setWith_30 : decode cX7_setWith 30 = .ok (.areturn, 1) := by decide +kernel
theorem dX7_turned_0 : decode cX7_turned 0 = .ok (.aload_n 0, 1) := by decide +kernel
theorem dX7_turned_1 : decode cX7_turned 1 = .ok (.getfield 31, 3) := by decide +kernel
theorem dX7_turned_4 : decode cX7_turned 4 = .ok (.aload_n 1, 1) := by decide +kernel
theorem dX7_turned_5 : decode cX7_turned 5 = .ok (.invokevirtual 144, 3) := by decide +kernel
theorem dX7_turned_8 : decode cX7_turned 8 = .ok (.aload_n 1, 1) := by decide +kernel
theorem dX7_turned_9 : decode cX7_turned 9 = .ok (.iload_n 2, 1) := by decide +kernel
theorem dX7_turned_10 : decode cX7_turned 10 = .ok (.iload_n 3, 1) := by decide +kernel
theorem dX7_turned_11 : decode cX7_turned 11 = .ok (.invokevirtual 304, 3) := by decide +kernel
theorem dX7_turned_14 : decode cX7_turned 14 = .ok (.aload_n 1, 1) := by decide +kernel
theorem dX7_turned_15 : decode cX7_turned 15 = .ok (.invokevirtual 152, 3) := by decide +kernel
theorem dX7_turned_18 : decode cX7_turned 18 = .ok (.ireturn, 1) := by decide +kernel
theorem dX7_allKeys_0 : decode cX7_allKeys 0 = .ok (.iload_n 2, 1) := by decide +kernel
theorem dX7_allKeys_1 : decode cX7_allKeys 1 = .ok (.istore 4, 2) := by decide +kernel
theorem dX7_allKeys_3 : decode cX7_allKeys 3 = .ok (.iload 4, 2) := by decide +kernel
theorem dX7_allKeys_5 : decode cX7_allKeys 5 = .ok (.iload_n 2, 1) := by decide +kernel
theorem dX7_allKeys_6 : decode cX7_allKeys 6 = .ok (.iload_n 3, 1) := by decide +kernel
theorem dX7_allKeys_7 : decode cX7_allKeys 7 = .ok (.iadd, 1) := by decide +kernel
theorem dX7_allKeys_8 : decode cX7_allKeys 8 = .ok (.if_icmp .ge 25, 3) := by decide +kernel
theorem dX7_allKeys_11 : decode cX7_allKeys 11 = .ok (.aload_n 0, 1) := by decide +kernel
theorem dX7_allKeys_12 : decode cX7_allKeys 12 = .ok (.aload_n 1, 1) := by decide +kernel
theorem dX7_allKeys_13 : decode cX7_allKeys 13 = .ok (.getfield 83, 3) := by decide +kernel
theorem dX7_allKeys_16 : decode cX7_allKeys 16 = .ok (.iload 4, 2) := by decide +kernel
theorem dX7_allKeys_18 : decode cX7_allKeys 18 = .ok (.iaload, 1) := by decide +kernel
theorem dX7_allKeys_19 : decode cX7_allKeys 19 = .ok (.invokevirtual 137, 3) := by decide +kernel
theorem dX7_allKeys_22 : decode cX7_allKeys 22 = .ok (.ifCond .ne 5, 3) := by decide +kernel
theorem dX7_allKeys_25 : decode cX7_allKeys 25 = .ok (.iconst 0, 1) := by decide +kernel
theorem dX7_allKeys_26 : decode cX7_allKeys 26 = .ok (.ireturn, 1) := by decide +kernel
theorem dX7_allKeys_27 : decode cX7_allKeys 27 = .ok (.iinc 4 1, 3) := by decide +kernel
theorem dX7_allKeys_30 : decode cX7_allKeys 30 = .ok (.goto (-27), 3) := by decide +kernel
theorem dX7_allKeys_33 : decode cX7_allKeys 33 = .ok (.iconst 1, 1) := by decide +kernel
theorem dX7_allKeys_34 : decode cX7_allKeys 34 = .ok (.ireturn, 1) := by decide +kernel
theorem dX7_rowsThere_0 : decode cX7_rowsThere 0 = .ok (.iconst 0, 1) := by decide +kernel
theorem dX7_rowsThere_1 : decode cX7_rowsThere 1 = .ok (.istore_n 1, 1) := by decide +kernel
theorem dX7_rowsThere_2 : decode cX7_rowsThere 2 = .ok (.aload_n 0, 1) := by decide +kernel
theorem dX7_rowsThere_3 : decode cX7_rowsThere 3 = .ok (.getfield 11, 3) := by decide +kernel
theorem dX7_rowsThere_6 : decode cX7_rowsThere 6 = .ok (.astore_n 2, 1) := by decide +kernel
theorem dX7_rowsThere_7 : decode cX7_rowsThere 7 = .ok (.aload_n 2, 1) := by decide +kernel
theorem dX7_rowsThere_8 : decode cX7_rowsThere 8 = .ok (.arraylength, 1) := by decide +kernel
theorem dX7_rowsThere_9 : decode cX7_rowsThere 9 = .ok (.istore_n 3, 1) := by decide +kernel
theorem dX7_rowsThere_10 : decode cX7_rowsThere 10 = .ok (.iconst 0, 1) := by decide +kernel
theorem dX7_rowsThere_11 : decode cX7_rowsThere 11 = .ok (.istore 4, 2) := by decide +kernel
theorem dX7_rowsThere_13 : decode cX7_rowsThere 13 = .ok (.iload 4, 2) := by decide +kernel
theorem dX7_rowsThere_15 : decode cX7_rowsThere 15 = .ok (.iload_n 3, 1) := by decide +kernel
theorem dX7_rowsThere_16 : decode cX7_rowsThere 16 = .ok (.if_icmp .ge 23, 3) := by decide +kernel
theorem dX7_rowsThere_19 : decode cX7_rowsThere 19 = .ok (.aload_n 2, 1) := by decide +kernel
theorem dX7_rowsThere_20 : decode cX7_rowsThere 20 = .ok (.iload 4, 2) := by decide +kernel
theorem dX7_rowsThere_22 : decode cX7_rowsThere 22 = .ok (.aaload, 1) := by decide +kernel
theorem dX7_rowsThere_23 : decode cX7_rowsThere 23 = .ok (.astore 5, 2) := by decide +kernel
theorem dX7_rowsThere_25 : decode cX7_rowsThere 25 = .ok (.aload 5, 2) := by decide +kernel
theorem dX7_rowsThere_27 : decode cX7_rowsThere 27 = .ok (.ifnull 6, 3) := by decide +kernel
theorem dX7_rowsThere_30 : decode cX7_rowsThere 30 = .ok (.iinc 1 1, 3) := by decide +kernel
theorem dX7_rowsThere_33 : decode cX7_rowsThere 33 = .ok (.iinc 4 1, 3) := by decide +kernel
theorem dX7_rowsThere_36 : decode cX7_rowsThere 36 = .ok (.goto (-23), 3) := by decide +kernel
theorem dX7_rowsThere_39 : decode cX7_rowsThere 39 = .ok (.iload_n 1, 1) := by decide +kernel
theorem dX7_rowsThere_40 : decode cX7_rowsThere 40 = .ok (.ireturn, 1) := by decide +kernel
theorem dX7_isSuch_0 : decode cX7_isSuch 0 = .ok (.iload_n 0, 1) := by decide +kernel
theorem dX7_isSuch_1 : decode cX7_isSuch 1 = .ok (.istore_n 2, 1) := by decide +kernel
theorem dX7_isSuch_2 : decode cX7_isSuch 2 = .ok (.iconst 0, 1) := by decide +kernel
theorem dX7_isSuch_3 : decode cX7_isSuch 3 = .ok (.istore_n 3, 1) := by decide +kernel
theorem dX7_isSuch_4 : decode cX7_isSuch 4 = .ok (.iload_n 3, 1) := by decide +kernel
theorem dX7_isSuch_5 : decode cX7_isSuch 5 = .ok (.getstatic 307, 3) := by decide +kernel
theorem dX7_isSuch_8 : decode cX7_isSuch 8 = .ok (.arraylength, 1) := by decide +kernel
theorem dX7_isSuch_9 : decode cX7_isSuch 9 = .ok (.if_icmp .ge 29, 3) := by decide +kernel
theorem dX7_isSuch_12 : decode cX7_isSuch 12 = .ok (.iload_n 2, 1) := by decide +kernel
theorem dX7_isSuch_13 : decode cX7_isSuch 13 = .ok (.iload_n 1, 1) := by decide +kernel
theorem dX7_isSuch_14 : decode cX7_isSuch 14 = .ok (.if_icmp .eq 24, 3) := by decide +kernel
theorem dX7_isSuch_17 : decode cX7_isSuch 17 = .ok (.iload_n 2, 1) := by decide +kernel
theorem dX7_isSuch_18 : decode cX7_isSuch 18 = .ok (.iconst 1, 1) := by decide +kernel
theorem dX7_isSuch_19 : decode cX7_isSuch 19 = .ok (.iconst 5, 1) := by decide +kernel
theorem dX7_isSuch_20 : decode cX7_isSuch 20 = .ok (.invokestatic 57, 3) := by decide +kernel
theorem dX7_isSuch_23 : decode cX7_isSuch 23 = .ok (.ifCond .eq 15, 3) := by decide +kernel
theorem dX7_isSuch_26 : decode cX7_isSuch 26 = .ok (.getstatic 307, 3) := by decide +kernel
theorem dX7_isSuch_29 : decode cX7_isSuch 29 = .ok (.iload_n 2, 1) := by decide +kernel
theorem dX7_isSuch_30 : decode cX7_isSuch 30 = .ok (.iaload, 1) := by decide +kernel
theorem dX7_isSuch_31 : decode cX7_isSuch 31 = .ok (.istore_n 2, 1) := by decide +kernel
theorem dX7_isSuch_32 : decode cX7_isSuch 32 = .ok (.iinc 3 1, 3) := by decide +kernel
theorem dX7_isSuch_35 : decode cX7_isSuch 35 = .ok (.goto (-31), 3) := by decide +kernel
theorem dX7_isSuch_38 : decode cX7_isSuch 38 = .ok (.iload_n 2, 1) := by decide +kernel
theorem dX7_isSuch_39 : decode cX7_isSuch 39 = .ok (.iload_n 1, 1) := by decide +kernel
theorem dX7_isSuch_40 : decode cX7_isSuch 40 = .ok (.if_icmp .ne 7, 3) := by decide +kernel
theorem dX7_isSuch_43 : decode cX7_isSuch 43 = .ok (.iconst 1, 1) := by decide +kernel
theorem dX7_isSuch_44 : decode cX7_isSuch 44 = .ok (.goto 4, 3) := by decide +kernel
theorem dX7_isSuch_47 : decode cX7_isSuch 47 = .ok (.iconst 0, 1) := by decide +kernel
theorem dX7_isSuch_48 : decode cX7_isSuch 48 = .ok (.ireturn, 1) := by decide +kernel
theorem dX7_sharedFactor_0 : decode cX7_sharedFactor 0 = .ok (.lload_n 0, 1) := by decide +kernel
theorem dX7_sharedFactor_1 : decode cX7_sharedFactor 1 = .ok (.lstore 4, 2) := by decide +kernel
theorem dX7_sharedFactor_3 : decode cX7_sharedFactor 3 = .ok (.lload_n 2, 1) := by decide +kernel
theorem dX7_sharedFactor_4 : decode cX7_sharedFactor 4 = .ok (.lstore 6, 2) := by decide +kernel
theorem dX7_sharedFactor_6 : decode cX7_sharedFactor 6 = .ok (.iconst 0, 1) := by decide +kernel
theorem dX7_sharedFactor_7 : decode cX7_sharedFactor 7 = .ok (.istore 8, 2) := by decide +kernel
theorem dX7_sharedFactor_9 : decode cX7_sharedFactor 9 = .ok (.iload 8, 2) := by decide +kernel
theorem dX7_sharedFactor_11 : decode cX7_sharedFactor 11 = .ok (.sipush 200, 3) := by decide +kernel
theorem dX7_sharedFactor_14 : decode cX7_sharedFactor 14 = .ok (.if_icmp .ge 31, 3) := by decide +kernel
theorem dX7_sharedFactor_17 : decode cX7_sharedFactor 17 = .ok (.lload 6, 2) := by decide +kernel
theorem dX7_sharedFactor_19 : decode cX7_sharedFactor 19 = .ok (.lconst 0, 1) := by decide +kernel
theorem dX7_sharedFactor_20 : decode cX7_sharedFactor 20 = .ok (.lcmp, 1) := by decide +kernel
theorem dX7_sharedFactor_21 : decode cX7_sharedFactor 21 = .ok (.ifCond .eq 24, 3) := by decide +kernel
theorem dX7_sharedFactor_24 : decode cX7_sharedFactor 24 = .ok (.lload 4, 2) := by decide +kernel
theorem dX7_sharedFactor_26 : decode cX7_sharedFactor 26 = .ok (.lload 6, 2) := by decide +kernel
theorem dX7_sharedFactor_28 : decode cX7_sharedFactor 28 = .ok (.lrem, 1) := by decide +kernel
theorem dX7_sharedFactor_29 : decode cX7_sharedFactor 29 = .ok (.lstore 9, 2) := by decide +kernel
theorem dX7_sharedFactor_31 : decode cX7_sharedFactor 31 = .ok (.lload 6, 2) := by decide +kernel
theorem dX7_sharedFactor_33 : decode cX7_sharedFactor 33 = .ok (.lstore 4, 2) := by decide +kernel
theorem dX7_sharedFactor_35 : decode cX7_sharedFactor 35 = .ok (.lload 9, 2) := by decide +kernel
theorem dX7_sharedFactor_37 : decode cX7_sharedFactor 37 = .ok (.lstore 6, 2) := by decide +kernel
theorem dX7_sharedFactor_39 : decode cX7_sharedFactor 39 = .ok (.iinc 8 1, 3) := by decide +kernel
theorem dX7_sharedFactor_42 : decode cX7_sharedFactor 42 = .ok (.goto (-33), 3) := by decide +kernel
theorem dX7_sharedFactor_45 : decode cX7_sharedFactor 45 = .ok (.lload 4, 2) := by decide +kernel
theorem dX7_sharedFactor_47 : decode cX7_sharedFactor 47 = .ok (.lconst 1, 1) := by decide +kernel
theorem dX7_sharedFactor_48 : decode cX7_sharedFactor 48 = .ok (.invokestatic 310, 3) := by decide +kernel
theorem dX7_sharedFactor_51 : decode cX7_sharedFactor 51 = .ok (.lreturn, 1) := by decide +kernel
theorem dX7_floatBits_0 : decode cX7_floatBits 0 = .ok (.iload_n 0, 1) := by decide +kernel
theorem dX7_floatBits_1 : decode cX7_floatBits 1 = .ok (.ifCond .le 7, 3) := by decide +kernel
theorem dX7_floatBits_4 : decode cX7_floatBits 4 = .ok (.iload_n 1, 1) := by decide +kernel
theorem dX7_floatBits_5 : decode cX7_floatBits 5 = .ok (.ifCond .gt 5, 3) := by decide +kernel
theorem dX7_floatBits_8 : decode cX7_floatBits 8 = .ok (.iconst 0, 1) := by decide +kernel
theorem dX7_floatBits_9 : decode cX7_floatBits 9 = .ok (.ireturn, 1) := by decide +kernel
theorem dX7_floatBits_10 : decode cX7_floatBits 10 = .ok (.iload_n 0, 1) := by decide +kernel
theorem dX7_floatBits_11 : decode cX7_floatBits 11 = .ok (.i2l, 1) := by decide +kernel
theorem dX7_floatBits_12 : decode cX7_floatBits 12 = .ok (.lstore_n 2, 1) := by decide +kernel
theorem dX7_floatBits_13 : decode cX7_floatBits 13 = .ok (.iload_n 1, 1) := by decide +kernel
theorem dX7_floatBits_14 : decode cX7_floatBits 14 = .ok (.i2l, 1) := by decide +kernel
theorem dX7_floatBits_15 : decode cX7_floatBits 15 = .ok (.lstore 4, 2) := by decide +kernel
theorem dX7_floatBits_17 : decode cX7_floatBits 17 = .ok (.bipush 127, 2) := by decide +kernel
theorem dX7_floatBits_19 : decode cX7_floatBits 19 = .ok (.istore 6, 2) := by decide +kernel
theorem dX7_floatBits_21 : decode cX7_floatBits 21 = .ok (.iconst 0, 1) := by decide +kernel
theorem dX7_floatBits_22 : decode cX7_floatBits 22 = .ok (.istore 7, 2) := by decide +kernel
theorem dX7_floatBits_24 : decode cX7_floatBits 24 = .ok (.iload 7, 2) := by decide +kernel
theorem dX7_floatBits_26 : decode cX7_floatBits 26 = .ok (.bipush 32, 2) := by decide +kernel
theorem dX7_floatBits_28 : decode cX7_floatBits 28 = .ok (.if_icmp .ge 25, 3) := by decide +kernel
theorem dX7_floatBits_31 : decode cX7_floatBits 31 = .ok (.lload_n 2, 1) := by decide +kernel
theorem dX7_floatBits_32 : decode cX7_floatBits 32 = .ok (.lload 4, 2) := by decide +kernel
theorem dX7_floatBits_34 : decode cX7_floatBits 34 = .ok (.lcmp, 1) := by decide +kernel
theorem dX7_floatBits_35 : decode cX7_floatBits 35 = .ok (.ifCond .ge 18, 3) := by decide +kernel
theorem dX7_floatBits_38 : decode cX7_floatBits 38 = .ok (.lload_n 2, 1) := by decide +kernel
theorem dX7_floatBits_39 : decode cX7_floatBits 39 = .ok (.ldc2_w 315, 3) := by decide +kernel
theorem dX7_floatBits_42 : decode cX7_floatBits 42 = .ok (.lmul, 1) := by decide +kernel
theorem dX7_floatBits_43 : decode cX7_floatBits 43 = .ok (.lstore_n 2, 1) := by decide +kernel
theorem dX7_floatBits_44 : decode cX7_floatBits 44 = .ok (.iinc 6 (-1), 3) := by decide +kernel
theorem dX7_floatBits_47 : decode cX7_floatBits 47 = .ok (.iinc 7 1, 3) := by decide +kernel
theorem dX7_floatBits_50 : decode cX7_floatBits 50 = .ok (.goto (-26), 3) := by decide +kernel
theorem dX7_floatBits_53 : decode cX7_floatBits 53 = .ok (.iconst 0, 1) := by decide +kernel
theorem dX7_floatBits_54 : decode cX7_floatBits 54 = .ok (.istore 7, 2) := by decide +kernel
theorem dX7_floatBits_56 : decode cX7_floatBits 56 = .ok (.iload 7, 2) := by decide +kernel
theorem dX7_floatBits_58 : decode cX7_floatBits 58 = .ok (.bipush 32, 2) := by decide +kernel
theorem dX7_floatBits_60 : decode cX7_floatBits 60 = .ok (.if_icmp .ge 31, 3) := by decide +kernel
theorem dX7_floatBits_63 : decode cX7_floatBits 63 = .ok (.lload_n 2, 1) := by decide +kernel
theorem dX7_floatBits_64 : decode cX7_floatBits 64 = .ok (.ldc2_w 315, 3) := by decide +kernel
theorem dX7_floatBits_67 : decode cX7_floatBits 67 = .ok (.lload 4, 2) := by decide +kernel
theorem dX7_floatBits_69 : decode cX7_floatBits 69 = .ok (.lmul, 1) := by decide +kernel
theorem dX7_floatBits_70 : decode cX7_floatBits 70 = .ok (.lcmp, 1) := by decide +kernel
theorem dX7_floatBits_71 : decode cX7_floatBits 71 = .ok (.ifCond .lt 20, 3) := by decide +kernel
theorem dX7_floatBits_74 : decode cX7_floatBits 74 = .ok (.lload 4, 2) := by decide +kernel
theorem dX7_floatBits_76 : decode cX7_floatBits 76 = .ok (.ldc2_w 315, 3) := by decide +kernel
theorem dX7_floatBits_79 : decode cX7_floatBits 79 = .ok (.lmul, 1) := by decide +kernel
theorem dX7_floatBits_80 : decode cX7_floatBits 80 = .ok (.lstore 4, 2) := by decide +kernel
theorem dX7_floatBits_82 : decode cX7_floatBits 82 = .ok (.iinc 6 1, 3) := by decide +kernel
theorem dX7_floatBits_85 : decode cX7_floatBits 85 = .ok (.iinc 7 1, 3) := by decide +kernel
theorem dX7_floatBits_88 : decode cX7_floatBits 88 = .ok (.goto (-32), 3) := by decide +kernel
theorem dX7_floatBits_91 : decode cX7_floatBits 91 = .ok (.lload_n 2, 1) := by decide +kernel
theorem dX7_floatBits_92 : decode cX7_floatBits 92 = .ok (.bipush 23, 2) := by decide +kernel
theorem dX7_floatBits_94 : decode cX7_floatBits 94 = .ok (.lshl, 1) := by decide +kernel
theorem dX7_floatBits_95 : decode cX7_floatBits 95 = .ok (.lload 4, 2) := by decide +kernel
theorem dX7_floatBits_97 : decode cX7_floatBits 97 = .ok (.ldiv, 1) := by decide +kernel
theorem dX7_floatBits_98 : decode cX7_floatBits 98 = .ok (.lstore 7, 2) := by decide +kernel
theorem dX7_floatBits_100 : decode cX7_floatBits 100 = .ok (.lload_n 2, 1) := by decide +kernel
theorem dX7_floatBits_101 : decode cX7_floatBits 101 = .ok (.bipush 23, 2) := by decide +kernel
theorem dX7_floatBits_103 : decode cX7_floatBits 103 = .ok (.lshl, 1) := by decide +kernel
theorem dX7_floatBits_104 : decode cX7_floatBits 104 = .ok (.lload 4, 2) := by decide +kernel
theorem dX7_floatBits_106 : decode cX7_floatBits 106 = .ok (.lrem, 1) := by decide +kernel
theorem dX7_floatBits_107 : decode cX7_floatBits 107 = .ok (.lstore 9, 2) := by decide +kernel
theorem dX7_floatBits_109 : decode cX7_floatBits 109 = .ok (.ldc2_w 315, 3) := by decide +kernel
theorem dX7_floatBits_112 : decode cX7_floatBits 112 = .ok (.lload 9, 2) := by decide +kernel
theorem dX7_floatBits_114 : decode cX7_floatBits 114 = .ok (.lmul, 1) := by decide +kernel
theorem dX7_floatBits_115 : decode cX7_floatBits 115 = .ok (.lload 4, 2) := by decide +kernel
theorem dX7_floatBits_117 : decode cX7_floatBits 117 = .ok (.lcmp, 1) := by decide +kernel
theorem dX7_floatBits_118 : decode cX7_floatBits 118 = .ok (.ifCond .gt 26, 3) := by decide +kernel
theorem dX7_floatBits_121 : decode cX7_floatBits 121 = .ok (.ldc2_w 315, 3) := by decide +kernel
theorem dX7_floatBits_124 : decode cX7_floatBits 124 = .ok (.lload 9, 2) := by decide +kernel
theorem dX7_floatBits_126 : decode cX7_floatBits 126 = .ok (.lmul, 1) := by decide +kernel
theorem dX7_floatBits_127 : decode cX7_floatBits 127 = .ok (.lload 4, 2) := by decide +kernel
theorem dX7_floatBits_129 : decode cX7_floatBits 129 = .ok (.lcmp, 1) := by decide +kernel
theorem dX7_floatBits_130 : decode cX7_floatBits 130 = .ok (.ifCond .ne 20, 3) := by decide +kernel
theorem dX7_floatBits_133 : decode cX7_floatBits 133 = .ok (.lload 7, 2) := by decide +kernel
theorem dX7_floatBits_135 : decode cX7_floatBits 135 = .ok (.ldc2_w 315, 3) := by decide +kernel
theorem dX7_floatBits_138 : decode cX7_floatBits 138 = .ok (.lrem, 1) := by decide +kernel
theorem dX7_floatBits_139 : decode cX7_floatBits 139 = .ok (.lconst 1, 1) := by decide +kernel
theorem dX7_floatBits_140 : decode cX7_floatBits 140 = .ok (.lcmp, 1) := by decide +kernel
theorem dX7_floatBits_141 : decode cX7_floatBits 141 = .ok (.ifCond .ne 9, 3) := by decide +kernel
theorem dX7_floatBits_144 : decode cX7_floatBits 144 = .ok (.lload 7, 2) := by decide +kernel
theorem dX7_floatBits_146 : decode cX7_floatBits 146 = .ok (.lconst 1, 1) := by decide +kernel
theorem dX7_floatBits_147 : decode cX7_floatBits 147 = .ok (.ladd, 1) := by decide +kernel
theorem dX7_floatBits_148 : decode cX7_floatBits 148 = .ok (.lstore 7, 2) := by decide +kernel
theorem dX7_floatBits_150 : decode cX7_floatBits 150 = .ok (.iload 6, 2) := by decide +kernel
theorem dX7_floatBits_152 : decode cX7_floatBits 152 = .ok (.iconst 1, 1) := by decide +kernel
theorem dX7_floatBits_153 : decode cX7_floatBits 153 = .ok (.isub, 1) := by decide +kernel
theorem dX7_floatBits_154 : decode cX7_floatBits 154 = .ok (.i2l, 1) := by decide +kernel
theorem dX7_floatBits_155 : decode cX7_floatBits 155 = .ok (.bipush 23, 2) := by decide +kernel
theorem dX7_floatBits_157 : decode cX7_floatBits 157 = .ok (.lshl, 1) := by decide +kernel
theorem dX7_floatBits_158 : decode cX7_floatBits 158 = .ok (.lload 7, 2) := by decide +kernel
theorem dX7_floatBits_160 : decode cX7_floatBits 160 = .ok (.ladd, 1) := by decide +kernel
theorem dX7_floatBits_161 : decode cX7_floatBits 161 = .ok (.l2i, 1) := by decide +kernel
theorem dX7_floatBits_162 : decode cX7_floatBits 162 = .ok (.ireturn, 1) := by decide +kernel
