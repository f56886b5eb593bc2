theorem dX7_init_0 : decode cX7_init 0 = .ok (.aload_n 0, 1) := by decide +kernel
theorem dX7_init_1 : decode cX7_init 1 = .ok (.invokespecial 1, 3) := by decide +kernel
theorem dX7_init_4 : decode cX7_init 4 = .ok (.aload_n 0, 1) := by decide +kernel
theorem dX7_init_5 : decode cX7_init 5 = .ok (.bipush 8, 2) := by decide +kernel
theorem dX7_init_7 : decode cX7_init 7 = .ok (.anewarray 9, 3) := by decide +kernel
theorem dX7_init_10 : decode cX7_init 10 = .ok (.putfield 11, 3) := by decide +kernel
theorem dX7_init_13 : decode cX7_init 13 = .ok (.aload_n 0, 1) := by decide +kernel
theorem dX7_init_14 : decode cX7_init 14 = .ok (.new 15, 3) := by decide +kernel
theorem dX7_init_17 : decode cX7_init 17 = .ok (.dup, 1) := by decide +kernel
theorem dX7_init_18 : decode cX7_init 18 = .ok (.invokespecial 17, 3) := by decide +kernel
theorem dX7_init_21 : decode cX7_init 21 = .ok (.putfield 18, 3) := by decide +kernel
theorem dX7_init_24 : decode cX7_init 24 = .ok (.aload_n 0, 1) := by decide +kernel
theorem dX7_init_25 : decode cX7_init 25 = .ok (.iconst 2, 1) := by decide +kernel
theorem dX7_init_26 : decode cX7_init 26 = .ok (.anewarray 22, 3) := by decide +kernel
theorem dX7_init_29 : decode cX7_init 29 = .ok (.putfield 24, 3) := by decide +kernel
theorem dX7_init_32 : decode cX7_init 32 = .ok (.aload_n 0, 1) := by decide +kernel
theorem dX7_init_33 : decode cX7_init 33 = .ok (.new 28, 3) := by decide +kernel
theorem dX7_init_36 : decode cX7_init 36 = .ok (.dup, 1) := by decide +kernel
theorem dX7_init_37 : decode cX7_init 37 = .ok (.invokespecial 30, 3) := by decide +kernel
theorem dX7_init_40 : decode cX7_init 40 = .ok (.putfield 31, 3) := by decide +kernel
theorem dX7_init_43 : decode cX7_init 43 = .ok (.aload_n 0, 1) := by decide +kernel
theorem dX7_init_44 : decode cX7_init 44 = .ok (.new 35, 3) := by decide +kernel
theorem dX7_init_47 : decode cX7_init 47 = .ok (.dup, 1) := by decide +kernel
theorem dX7_init_48 : decode cX7_init 48 = .ok (.invokespecial 37, 3) := by decide +kernel
theorem dX7_init_51 : decode cX7_init 51 = .ok (.putfield 38, 3) := by decide +kernel
theorem dX7_init_54 : decode cX7_init 54 = .ok (.aload_n 0, 1) := by decide +kernel
theorem dX7_init_55 : decode cX7_init 55 = .ok (.aconst_null, 1) := by decide +kernel
theorem dX7_init_56 : decode cX7_init 56 = .ok (.putfield 42, 3) := by decide +kernel
theorem dX7_init_59 : decode cX7_init 59 = .ok (.aload_n 0, 1) := by decide +kernel
theorem dX7_init_60 : decode cX7_init 60 = .ok (.iconst 0, 1) := by decide +kernel
theorem dX7_init_61 : decode cX7_init 61 = .ok (.putfield 46, 3) := by decide +kernel
theorem dX7_init_64 : decode cX7_init 64 = .ok (.aload_n 0, 1) := by decide +kernel
theorem dX7_init_65 : decode cX7_init 65 = .ok (.iconst 0, 1) := by decide +kernel
theorem dX7_init_66 : decode cX7_init 66 = .ok (.putfield 50, 3) := by decide +kernel
theorem dX7_init_69 : decode cX7_init 69 = .ok (.return_, 1) := by decide +kernel
theorem dX7_row_0 : decode cX7_row 0 = .ok (.iload_n 1, 1) := by decide +kernel
theorem dX7_row_1 : decode cX7_row 1 = .ok (.invokestatic 53, 3) := by decide +kernel
theorem dX7_row_4 : decode cX7_row 4 = .ok (.ifCond .eq 18, 3) := by decide +kernel
theorem dX7_row_7 : decode cX7_row 7 = .ok (.iload_n 2, 1) := by decide +kernel
theorem dX7_row_8 : decode cX7_row 8 = .ok (.iconst 0, 1) := by decide +kernel
theorem dX7_row_9 : decode cX7_row 9 = .ok (.iconst 2, 1) := by decide +kernel
theorem dX7_row_10 : decode cX7_row 10 = .ok (.invokestatic 57, 3) := by decide +kernel
theorem dX7_row_13 : decode cX7_row 13 = .ok (.ifCond .eq 9, 3) := by decide +kernel
theorem dX7_row_16 : decode cX7_row 16 = .ok (.iload_n 3, 1) := by decide +kernel
theorem dX7_row_17 : decode cX7_row 17 = .ok (.bipush 40, 2) := by decide +kernel
theorem dX7_row_19 : decode cX7_row 19 = .ok (.if_icmp .le 6, 3) := by decide +kernel
theorem dX7_row_22 : decode cX7_row 22 = .ok (.ldc 61, 2) := by decide +kernel
theorem dX7_row_24 : decode cX7_row 24 = .ok (.ireturn, 1) := by decide +kernel
theorem dX7_row_25 : decode cX7_row 25 = .ok (.iload_n 3, 1) := by decide +kernel
theorem dX7_row_26 : decode cX7_row 26 = .ok (.ifCond .ge 9, 3) := by decide +kernel
theorem dX7_row_29 : decode cX7_row 29 = .ok (.aload_n 0, 1) := by decide +kernel
theorem dX7_row_30 : decode cX7_row 30 = .ok (.iconst 4, 1) := by decide +kernel
theorem dX7_row_31 : decode cX7_row 31 = .ok (.invokevirtual 62, 3) := by decide +kernel
theorem dX7_row_34 : decode cX7_row 34 = .ok (.ireturn, 1) := by decide +kernel
theorem dX7_row_35 : decode cX7_row 35 = .ok (.aload_n 0, 1) := by decide +kernel
theorem dX7_row_36 : decode cX7_row 36 = .ok (.getfield 11, 3) := by decide +kernel
theorem dX7_row_39 : decode cX7_row 39 = .ok (.iload_n 1, 1) := by decide +kernel
theorem dX7_row_40 : decode cX7_row 40 = .ok (.new 9, 3) := by decide +kernel
theorem dX7_row_43 : decode cX7_row 43 = .ok (.dup, 1) := by decide +kernel
theorem dX7_row_44 : decode cX7_row 44 = .ok (.iload_n 2, 1) := by decide +kernel
theorem dX7_row_45 : decode cX7_row 45 = .ok (.iload_n 3, 1) := by decide +kernel
theorem dX7_row_46 : decode cX7_row 46 = .ok (.invokespecial 66, 3) := by decide +kernel
theorem dX7_row_49 : decode cX7_row 49 = .ok (.aastore, 1) := by decide +kernel
theorem dX7_row_50 : decode cX7_row 50 = .ok (.aload_n 0, 1) := by decide +kernel
theorem dX7_row_51 : decode cX7_row 51 = .ok (.iload_n 3, 1) := by decide +kernel
theorem dX7_row_52 : decode cX7_row 52 = .ok (.invokevirtual 69, 3) := by decide +kernel
theorem dX7_row_55 : decode cX7_row 55 = .ok (.ireturn, 1) := by decide +kernel
theorem dX7_set_0 : decode cX7_set 0 = .ok (.iload_n 1, 1) := by decide +kernel
theorem dX7_set_1 : decode cX7_set 1 = .ok (.invokestatic 53, 3) := by decide +kernel
theorem dX7_set_4 : decode cX7_set 4 = .ok (.ifCond .ne 6, 3) := by decide +kernel
theorem dX7_set_7 : decode cX7_set 7 = .ok (.ldc 61, 2) := by decide +kernel
theorem dX7_set_9 : decode cX7_set 9 = .ok (.ireturn, 1) := by decide +kernel
theorem dX7_set_10 : decode cX7_set 10 = .ok (.aload_n 0, 1) := by decide +kernel
theorem dX7_set_11 : decode cX7_set 11 = .ok (.getfield 11, 3) := by decide +kernel
theorem dX7_set_14 : decode cX7_set 14 = .ok (.iload_n 1, 1) := by decide +kernel
theorem dX7_set_15 : decode cX7_set 15 = .ok (.aaload, 1) := by decide +kernel
theorem dX7_set_16 : decode cX7_set 16 = .ok (.astore 4, 2) := by decide +kernel
theorem dX7_set_18 : decode cX7_set 18 = .ok (.aload 4, 2) := by decide +kernel
theorem dX7_set_20 : decode cX7_set 20 = .ok (.ifnonnull 9, 3) := by decide +kernel
theorem dX7_set_23 : decode cX7_set 23 = .ok (.aload_n 0, 1) := by decide +kernel
theorem dX7_set_24 : decode cX7_set 24 = .ok (.iconst 1, 1) := by decide +kernel
theorem dX7_set_25 : decode cX7_set 25 = .ok (.invokevirtual 62, 3) := by decide +kernel
theorem dX7_set_28 : decode cX7_set 28 = .ok (.ireturn, 1) := by decide +kernel
theorem dX7_set_29 : decode cX7_set 29 = .ok (.aload 4, 2) := by decide +kernel
theorem dX7_set_31 : decode cX7_set 31 = .ok (.iload_n 2, 1) := by decide +kernel
theorem dX7_set_32 : decode cX7_set 32 = .ok (.iconst 1, 1) := by decide +kernel
theorem dX7_set_33 : decode cX7_set 33 = .ok (.invokevirtual 72, 3) := by decide +kernel
theorem dX7_set_36 : decode cX7_set 36 = .ok (.ifCond .ne 9, 3) := by decide +kernel
theorem dX7_set_39 : decode cX7_set 39 = .ok (.aload_n 0, 1) := by decide +kernel
theorem dX7_set_40 : decode cX7_set 40 = .ok (.iconst 2, 1) := by decide +kernel
theorem dX7_set_41 : decode cX7_set 41 = .ok (.invokevirtual 62, 3) := by decide +kernel
theorem dX7_set_44 : decode cX7_set 44 = .ok (.ireturn, 1) := by decide +kernel
theorem dX7_set_45 : decode cX7_set 45 = .ok (.aload_n 0, 1) := by decide +kernel
theorem dX7_set_46 : decode cX7_set 46 = .ok (.aload 4, 2) := by decide +kernel
theorem dX7_set_48 : decode cX7_set 48 = .ok (.iload_n 2, 1) := by decide +kernel
theorem dX7_set_49 : decode cX7_set 49 = .ok (.iload_n 3, 1) := by decide +kernel
theorem dX7_set_50 : decode cX7_set 50 = .ok (.invokevirtual 76, 3) := by decide +kernel
theorem dX7_set_53 : decode cX7_set 53 = .ok (.invokevirtual 69, 3) := by decide +kernel
theorem dX7_set_56 : decode cX7_set 56 = .ok (.ireturn, 1) := by decide +kernel
theorem dX7_copy_0 : decode cX7_copy 0 = .ok (.iload_n 1, 1) := by decide +kernel
theorem dX7_copy_1 : decode cX7_copy 1 = .ok (.invokestatic 53, 3) := by decide +kernel
theorem dX7_copy_4 : decode cX7_copy 4 = .ok (.ifCond .eq 10, 3) := by decide +kernel
theorem dX7_copy_7 : decode cX7_copy 7 = .ok (.iload_n 3, 1) := by decide +kernel
theorem dX7_copy_8 : decode cX7_copy 8 = .ok (.invokestatic 53, 3) := by decide +kernel
theorem dX7_copy_11 : decode cX7_copy 11 = .ok (.ifCond .ne 6, 3) := by decide +kernel
theorem dX7_copy_14 : decode cX7_copy 14 = .ok (.ldc 61, 2) := by decide +kernel
theorem dX7_copy_16 : decode cX7_copy 16 = .ok (.ireturn, 1) := by decide +kernel
theorem dX7_copy_17 : decode cX7_copy 17 = .ok (.aload_n 0, 1) := by decide +kernel
theorem dX7_copy_18 : decode cX7_copy 18 = .ok (.getfield 11, 3) := by decide +kernel
theorem dX7_copy_21 : decode cX7_copy 21 = .ok (.iload_n 1, 1) := by decide +kernel
theorem dX7_copy_22 : decode cX7_copy 22 = .ok (.aaload, 1) := by decide +kernel
theorem dX7_copy_23 : decode cX7_copy 23 = .ok (.astore 6, 2) := by decide +kernel
theorem dX7_copy_25 : decode cX7_copy 25 = .ok (.aload_n 0, 1) := by decide +kernel
theorem dX7_copy_26 : decode cX7_copy 26 = .ok (.getfield 11, 3) := by decide +kernel
theorem dX7_copy_29 : decode cX7_copy 29 = .ok (.iload_n 3, 1) := by decide +kernel
theorem dX7_copy_30 : decode cX7_copy 30 = .ok (.aaload, 1) := by decide +kernel
theorem dX7_copy_31 : decode cX7_copy 31 = .ok (.astore 7, 2) := by decide +kernel
theorem dX7_copy_33 : decode cX7_copy 33 = .ok (.aload 6, 2) := by decide +kernel
theorem dX7_copy_35 : decode cX7_copy 35 = .ok (.ifnull 8, 3) := by decide +kernel
theorem dX7_copy_38 : decode cX7_copy 38 = .ok (.aload 7, 2) := by decide +kernel
theorem dX7_copy_40 : decode cX7_copy 40 = .ok (.ifnonnull 9, 3) := by decide +kernel
theorem dX7_copy_43 : decode cX7_copy 43 = .ok (.aload_n 0, 1) := by decide +kernel
theorem dX7_copy_44 : decode cX7_copy 44 = .ok (.iconst 1, 1) := by decide +kernel
theorem dX7_copy_45 : decode cX7_copy 45 = .ok (.invokevirtual 62, 3) := by decide +kernel
theorem dX7_copy_48 : decode cX7_copy 48 = .ok (.ireturn, 1) := by decide +kernel
theorem dX7_copy_49 : decode cX7_copy 49 = .ok (.aload 6, 2) := by decide +kernel
theorem dX7_copy_51 : decode cX7_copy 51 = .ok (.getfield 80, 3) := by decide +kernel
theorem dX7_copy_54 : decode cX7_copy 54 = .ok (.aload 7, 2) := by decide +kernel
theorem dX7_copy_56 : decode cX7_copy 56 = .ok (.getfield 80, 3) := by decide +kernel
theorem dX7_copy_59 : decode cX7_copy 59 = .ok (.if_icmp .eq 9, 3) := by decide +kernel
theorem dX7_copy_62 : decode cX7_copy 62 = .ok (.aload_n 0, 1) := by decide +kernel
theorem dX7_copy_63 : decode cX7_copy 63 = .ok (.iconst 5, 1) := by decide +kernel
theorem dX7_copy_64 : decode cX7_copy 64 = .ok (.invokevirtual 62, 3) := by decide +kernel
theorem dX7_copy_67 : decode cX7_copy 67 = .ok (.ireturn, 1) := by decide +kernel
theorem dX7_copy_68 : decode cX7_copy 68 = .ok (.aload 6, 2) := by decide +kernel
theorem dX7_copy_70 : decode cX7_copy 70 = .ok (.iload_n 2, 1) := by decide +kernel
theorem dX7_copy_71 : decode cX7_copy 71 = .ok (.iload 5, 2) := by decide +kernel
theorem dX7_copy_73 : decode cX7_copy 73 = .ok (.invokevirtual 72, 3) := by decide +kernel
theorem dX7_copy_76 : decode cX7_copy 76 = .ok (.ifCond .eq 15, 3) := by decide +kernel
theorem dX7_copy_79 : decode cX7_copy 79 = .ok (.aload 7, 2) := by decide +kernel
theorem dX7_copy_81 : decode cX7_copy 81 = .ok (.iload 4, 2) := by decide +kernel
theorem dX7_copy_83 : decode cX7_copy 83 = .ok (.iload 5, 2) := by decide +kernel
theorem dX7_copy_85 : decode cX7_copy 85 = .ok (.invokevirtual 72, 3) := by decide +kernel
theorem dX7_copy_88 : decode cX7_copy 88 = .ok (.ifCond .ne 9, 3) := by decide +kernel
theorem dX7_copy_91 : decode cX7_copy 91 = .ok (.aload_n 0, 1) := by decide +kernel
theorem dX7_copy_92 : decode cX7_copy 92 = .ok (.iconst 2, 1) := by decide +kernel
theorem dX7_copy_93 : decode cX7_copy 93 = .ok (.invokevirtual 62, 3) := by decide +kernel
theorem dX7_copy_96 : decode cX7_copy 96 = .ok (.ireturn, 1) := by decide +kernel
theorem dX7_copy_97 : decode cX7_copy 97 = .ok (.aload 6, 2) := by decide +kernel
theorem dX7_copy_99 : decode cX7_copy 99 = .ok (.getfield 83, 3) := by decide +kernel
theorem dX7_copy_102 : decode cX7_copy 102 = .ok (.iload_n 2, 1) := by decide +kernel
theorem dX7_copy_103 : decode cX7_copy 103 = .ok (.aload 7, 2) := by decide +kernel
theorem dX7_copy_105 : decode cX7_copy 105 = .ok (.getfield 83, 3) := by decide +kernel
theorem dX7_copy_108 : decode cX7_copy 108 = .ok (.iload 4, 2) := by decide +kernel
theorem dX7_copy_110 : decode cX7_copy 110 = .ok (.iload 5, 2) := by decide +kernel
theorem dX7_copy_112 : decode cX7_copy 112 = .ok (.invokestatic 87, 3) := by decide +kernel
theorem dX7_copy_115 : decode cX7_copy 115 = .ok (.aload_n 0, 1) := by decide +kernel
theorem dX7_copy_116 : decode cX7_copy 116 = .ok (.iload 5, 2) := by decide +kernel
theorem dX7_copy_118 : decode cX7_copy 118 = .ok (.invokevirtual 69, 3) := by decide +kernel
theorem dX7_copy_121 : decode cX7_copy 121 = .ok (.ireturn, 1) := by decide +kernel
theorem dX7_drop_0 : decode cX7_drop 0 = .ok (.iload_n 1, 1) := by decide +kernel
theorem dX7_drop_1 : decode cX7_drop 1 = .ok (.invokestatic 53, 3) := by decide +kernel
theorem dX7_drop_4 : decode cX7_drop 4 = .ok (.ifCond .ne 6, 3) := by decide +kernel
theorem dX7_drop_7 : decode cX7_drop 7 = .ok (.ldc 61, 2) := by decide +kernel
theorem dX7_drop_9 : decode cX7_drop 9 = .ok (.ireturn, 1) := by decide +kernel
theorem dX7_drop_10 : decode cX7_drop 10 = .ok (.aload_n 0, 1) := by decide +kernel
theorem dX7_drop_11 : decode cX7_drop 11 = .ok (.getfield 11, 3) := by decide +kernel
theorem dX7_drop_14 : decode cX7_drop 14 = .ok (.iload_n 1, 1) := by decide +kernel
theorem dX7_drop_15 : decode cX7_drop 15 = .ok (.aaload, 1) := by decide +kernel
theorem dX7_drop_16 : decode cX7_drop 16 = .ok (.astore_n 2, 1) := by decide +kernel
theorem dX7_drop_17 : decode cX7_drop 17 = .ok (.aload_n 2, 1) := by decide +kernel
theorem dX7_drop_18 : decode cX7_drop 18 = .ok (.ifnonnull 9, 3) := by decide +kernel
theorem dX7_drop_21 : decode cX7_drop 21 = .ok (.aload_n 0, 1) := by decide +kernel
theorem dX7_drop_22 : decode cX7_drop 22 = .ok (.iconst 1, 1) := by decide +kernel
theorem dX7_drop_23 : decode cX7_drop 23 = .ok (.invokevirtual 62, 3) := by decide +kernel
theorem dX7_drop_26 : decode cX7_drop 26 = .ok (.ireturn, 1) := by decide +kernel
theorem dX7_drop_27 : decode cX7_drop 27 = .ok (.aload_n 0, 1) := by decide +kernel
theorem dX7_drop_28 : decode cX7_drop 28 = .ok (.getfield 11, 3) := by decide +kernel
theorem dX7_drop_31 : decode cX7_drop 31 = .ok (.iload_n 1, 1) := by decide +kernel
theorem dX7_drop_32 : decode cX7_drop 32 = .ok (.aconst_null, 1) := by decide +kernel
theorem dX7_drop_33 : decode cX7_drop 33 = .ok (.aastore, 1) := by decide +kernel
theorem dX7_drop_34 : decode cX7_drop 34 = .ok (.aload_n 0, 1) := by decide +kernel
theorem dX7_drop_35 : decode cX7_drop 35 = .ok (.aload_n 2, 1) := by decide +kernel
theorem dX7_drop_36 : decode cX7_drop 36 = .ok (.getfield 83, 3) := by decide +kernel
theorem dX7_drop_39 : decode cX7_drop 39 = .ok (.arraylength, 1) := by decide +kernel
theorem dX7_drop_40 : decode cX7_drop 40 = .ok (.invokevirtual 69, 3) := by decide +kernel
theorem dX7_drop_43 : decode cX7_drop 43 = .ok (.ireturn, 1) := by decide +kernel
theorem dX7_feed_0 : decode cX7_feed 0 = .ok (.iload_n 1, 1) := by decide +kernel
theorem dX7_feed_1 : decode cX7_feed 1 = .ok (.iconst 0, 1) := by decide +kernel
theorem dX7_feed_2 : decode cX7_feed 2 = .ok (.sipush 255, 3) := by decide +kernel
theorem dX7_feed_5 : decode cX7_feed 5 = .ok (.invokestatic 57, 3) := by decide +kernel
theorem dX7_feed_8 : decode cX7_feed 8 = .ok (.ifCond .ne 6, 3) := by decide +kernel
theorem dX7_feed_11 : decode cX7_feed 11 = .ok (.ldc 61, 2) := by decide +kernel
theorem dX7_feed_13 : decode cX7_feed 13 = .ok (.ireturn, 1) := by decide +kernel
theorem dX7_feed_14 : decode cX7_feed 14 = .ok (.aload_n 0, 1) := by decide +kernel
theorem dX7_feed_15 : decode cX7_feed 15 = .ok (.getfield 18, 3) := by decide +kernel
theorem dX7_feed_18 : decode cX7_feed 18 = .ok (.getfield 93, 3) := by decide +kernel
theorem dX7_feed_21 : decode cX7_feed 21 = .ok (.bipush 110, 2) := by decide +kernel
theorem dX7_feed_23 : decode cX7_feed 23 = .ok (.if_icmp .lt 6, 3) := by decide +kernel
theorem dX7_feed_26 : decode cX7_feed 26 = .ok (.ldc 96, 2) := by decide +kernel
theorem dX7_feed_28 : decode cX7_feed 28 = .ok (.ireturn, 1) := by decide +kernel
theorem dX7_feed_29 : decode cX7_feed 29 = .ok (.aload_n 0, 1) := by decide +kernel
theorem dX7_feed_30 : decode cX7_feed 30 = .ok (.getfield 18, 3) := by decide +kernel
theorem dX7_feed_33 : decode cX7_feed 33 = .ok (.iload_n 1, 1) := by decide +kernel
theorem dX7_feed_34 : decode cX7_feed 34 = .ok (.invokevirtual 97, 3) := by decide +kernel
theorem dX7_feed_37 : decode cX7_feed 37 = .ok (.ireturn, 1) := by decide +kernel
theorem dX7_shelf_0 : decode cX7_shelf 0 = .ok (.aload_n 0, 1) := by decide +kernel
theorem dX7_shelf_1 : decode cX7_shelf 1 = .ok (.getfield 18, 3) := by decide +kernel
theorem dX7_shelf_4 : decode cX7_shelf 4 = .ok (.invokevirtual 100, 3) := by decide +kernel
theorem dX7_shelf_7 : decode cX7_shelf 7 = .ok (.astore_n 1, 1) := by decide +kernel
theorem dX7_shelf_8 : decode cX7_shelf 8 = .ok (.aload_n 0, 1) := by decide +kernel
theorem dX7_shelf_9 : decode cX7_shelf 9 = .ok (.getfield 18, 3) := by decide +kernel
theorem dX7_shelf_12 : decode cX7_shelf 12 = .ok (.iconst 0, 1) := by decide +kernel
theorem dX7_shelf_13 : decode cX7_shelf 13 = .ok (.putfield 93, 3) := by decide +kernel
theorem dX7_shelf_16 : decode cX7_shelf 16 = .ok (.aload_n 1, 1) := by decide +kernel
theorem dX7_shelf_17 : decode cX7_shelf 17 = .ok (.ifnonnull 25, 3) := by decide +kernel
theorem dX7_shelf_20 : decode cX7_shelf 20 = .ok (.aload_n 0, 1) := by decide +kernel
theorem dX7_shelf_21 : decode cX7_shelf 21 = .ok (.aload_n 0, 1) := by decide +kernel
theorem dX7_shelf_22 : decode cX7_shelf 22 = .ok (.getfield 18, 3) := by decide +kernel
theorem dX7_shelf_25 : decode cX7_shelf 25 = .ok (.getfield 104, 3) := by decide +kernel
theorem dX7_shelf_28 : decode cX7_shelf 28 = .ok (.putfield 46, 3) := by decide +kernel
theorem dX7_shelf_31 : decode cX7_shelf 31 = .ok (.ldc 107, 2) := by decide +kernel
theorem dX7_shelf_33 : decode cX7_shelf 33 = .ok (.aload_n 0, 1) := by decide +kernel
theorem dX7_shelf_34 : decode cX7_shelf 34 = .ok (.getfield 18, 3) := by decide +kernel
theorem dX7_shelf_37 : decode cX7_shelf 37 = .ok (.getfield 108, 3) := by decide +kernel
theorem dX7_shelf_40 : decode cX7_shelf 40 = .ok (.isub, 1) := by decide +kernel
theorem dX7_shelf_41 : decode cX7_shelf 41 = .ok (.ireturn, 1) := by decide +kernel
theorem dX7_shelf_42 : decode cX7_shelf 42 = .ok (.aload_n 0, 1) := by decide +kernel
theorem dX7_shelf_43 : decode cX7_shelf 43 = .ok (.aload_n 1, 1) := by decide +kernel
theorem dX7_shelf_44 : decode cX7_shelf 44 = .ok (.putfield 42, 3) := by decide +kernel
theorem dX7_shelf_47 : decode cX7_shelf 47 = .ok (.aload_n 0, 1) := by decide +kernel
theorem dX7_shelf_48 : decode cX7_shelf 48 = .ok (.getfield 31, 3) := by decide +kernel
theorem dX7_shelf_51 : decode cX7_shelf 51 = .ok (.invokevirtual 111, 3) := by decide +kernel
theorem dX7_shelf_54 : decode cX7_shelf 54 = .ok (.aload_n 1, 1) := by decide +kernel
theorem dX7_shelf_55 : decode cX7_shelf 55 = .ok (.getfield 114, 3) := by decide +kernel
theorem dX7_shelf_58 : decode cX7_shelf 58 = .ok (.ireturn, 1) := by decide +kernel
theorem dX7_fault_0 : decode cX7_fault 0 = .ok (.aload_n 0, 1) := by decide +kernel
theorem dX7_fault_1 : decode cX7_fault 1 = .ok (.getfield 46, 3) := by decide +kernel
theorem dX7_fault_4 : decode cX7_fault 4 = .ok (.ireturn, 1) := by decide +kernel
theorem dX7_undo_0 : decode cX7_undo 0 = .ok (.aload_n 0, 1) := by decide +kernel
theorem dX7_undo_1 : decode cX7_undo 1 = .ok (.getfield 31, 3) := by decide +kernel
theorem dX7_undo_4 : decode cX7_undo 4 = .ok (.getfield 117, 3) := by decide +kernel
theorem dX7_undo_7 : decode cX7_undo 7 = .ok (.ifCond .ne 6, 3) := by decide +kernel
theorem dX7_undo_10 : decode cX7_undo 10 = .ok (.ldc 120, 2) := by decide +kernel
theorem dX7_undo_12 : decode cX7_undo 12 = .ok (.ireturn, 1) := by decide +kernel
theorem dX7_undo_13 : decode cX7_undo 13 = .ok (.aload_n 0, 1) := by decide +kernel
theorem dX7_undo_14 : decode cX7_undo 14 = .ok (.getfield 31, 3) := by decide +kernel
theorem dX7_undo_17 : decode cX7_undo 17 = .ok (.invokevirtual 121, 3) := by decide +kernel
theorem dX7_undo_20 : decode cX7_undo 20 = .ok (.aload_n 0, 1) := by decide +kernel
theorem dX7_undo_21 : decode cX7_undo 21 = .ok (.getfield 31, 3) := by decide +kernel
theorem dX7_undo_24 : decode cX7_undo 24 = .ok (.getfield 117, 3) := by decide +kernel
theorem dX7_undo_27 : decode cX7_undo 27 = .ok (.ireturn, 1) := by decide +kernel
theorem dX7_add_0 : decode cX7_add 0 = .ok (.aload_n 0, 1) := by decide +kernel
theorem dX7_add_1 : decode cX7_add 1 = .ok (.iload_n 1, 1) := by decide +kernel
theorem dX7_add_2 : decode cX7_add 2 = .ok (.iload_n 2, 1) := by decide +kernel
theorem dX7_add_3 : decode cX7_add 3 = .ok (.invokevirtual 124, 3) := by decide +kernel
theorem dX7_add_6 : decode cX7_add 6 = .ok (.astore_n 3, 1) := by decide +kernel
theorem dX7_add_7 : decode cX7_add 7 = .ok (.aload_n 3, 1) := by decide +kernel
theorem dX7_add_8 : decode cX7_add 8 = .ok (.ifnonnull 6, 3) := by decide +kernel
theorem dX7_add_11 : decode cX7_add 11 = .ok (.ldc 61, 2) := by decide +kernel
theorem dX7_add_13 : decode cX7_add 13 = .ok (.ireturn, 1) := by decide +kernel
theorem dX7_add_14 : decode cX7_add 14 = .ok (.aload_n 3, 1) := by decide +kernel
theorem dX7_add_15 : decode cX7_add 15 = .ok (.iload_n 2, 1) := by decide +kernel
theorem dX7_add_16 : decode cX7_add 16 = .ok (.invokevirtual 128, 3) := by decide +kernel
theorem dX7_add_19 : decode cX7_add 19 = .ok (.ifCond .eq 8, 3) := by decide +kernel
theorem dX7_add_22 : decode cX7_add 22 = .ok (.ldc 120, 2) := by decide +kernel
theorem dX7_add_24 : decode cX7_add 24 = .ok (.goto 10, 3) := by decide +kernel
theorem dX7_add_27 : decode cX7_add 27 = .ok (.aload_n 0, 1) := by decide +kernel
theorem dX7_add_28 : decode cX7_add 28 = .ok (.aload_n 3, 1) := by decide +kernel
theorem dX7_add_29 : decode cX7_add 29 = .ok (.iload_n 2, 1) := by decide +kernel
theorem dX7_add_30 : decode cX7_add 30 = .ok (.iload_n 2, 1) := by decide +kernel
theorem dX7_add_31 : decode cX7_add 31 = .ok (.invokevirtual 133, 3) := by decide +kernel
theorem dX7_add_34 : decode cX7_add 34 = .ok (.ireturn, 1) := by decide +kernel
theorem dX7_take_0 : decode cX7_take 0 = .ok (.aload_n 0, 1) := by decide +kernel
theorem dX7_take_1 : decode cX7_take 1 = .ok (.iload_n 1, 1) := by decide +kernel
theorem dX7_take_2 : decode cX7_take 2 = .ok (.iload_n 2, 1) := by decide +kernel
theorem dX7_take_3 : decode cX7_take 3 = .ok (.invokevirtual 124, 3) := by decide +kernel
theorem dX7_take_6 : decode cX7_take 6 = .ok (.astore_n 3, 1) := by decide +kernel
theorem dX7_take_7 : decode cX7_take 7 = .ok (.aload_n 3, 1) := by decide +kernel
theorem dX7_take_8 : decode cX7_take 8 = .ok (.ifnonnull 6, 3) := by decide +kernel
theorem dX7_take_11 : decode cX7_take 11 = .ok (.ldc 61, 2) := by decide +kernel
theorem dX7_take_13 : decode cX7_take 13 = .ok (.ireturn, 1) := by decide +kernel
theorem dX7_take_14 : decode cX7_take 14 = .ok (.aload_n 3, 1) := by decide +kernel
theorem dX7_take_15 : decode cX7_take 15 = .ok (.iload_n 2, 1) := by decide +kernel
theorem dX7_take_16 : decode cX7_take 16 = .ok (.invokevirtual 128, 3) := by decide +kernel
theorem dX7_take_19 : decode cX7_take 19 = .ok (.ifCond .eq 13, 3) := by decide +kernel
theorem dX7_take_22 : decode cX7_take 22 = .ok (.aload_n 0, 1) := by decide +kernel
theorem dX7_take_23 : decode cX7_take 23 = .ok (.aload_n 3, 1) := by decide +kernel
theorem dX7_take_24 : decode cX7_take 24 = .ok (.iload_n 2, 1) := by decide +kernel
theorem dX7_take_25 : decode cX7_take 25 = .ok (.iload_n 2, 1) := by decide +kernel
theorem dX7_take_26 : decode cX7_take 26 = .ok (.invokevirtual 133, 3) := by decide +kernel
theorem dX7_take_29 : decode cX7_take 29 = .ok (.goto 5, 3) := by decide +kernel
theorem dX7_take_32 : decode cX7_take 32 = .ok (.ldc 120, 2) := by decide +kernel
theorem dX7_take_34 : decode cX7_take 34 = .ok (.ireturn, 1) := by decide +kernel
theorem dX7_flip_0 : decode cX7_flip 0 = .ok (.aload_n 0, 1) := by decide +kernel
theorem dX7_flip_1 : decode cX7_flip 1 = .ok (.iload_n 1, 1) := by decide +kernel
theorem dX7_flip_2 : decode cX7_flip 2 = .ok (.iload_n 2, 1) := by decide +kernel
theorem dX7_flip_3 : decode cX7_flip 3 = .ok (.invokevirtual 124, 3) := by decide +kernel
theorem dX7_flip_6 : decode cX7_flip 6 = .ok (.astore 4, 2) := by decide +kernel
theorem dX7_flip_8 : decode cX7_flip 8 = .ok (.aload 4, 2) := by decide +kernel
theorem dX7_flip_10 : decode cX7_flip 10 = .ok (.ifnull 17, 3) := by decide +kernel
theorem dX7_flip_13 : decode cX7_flip 13 = .ok (.aload 4, 2) := by decide +kernel
theorem dX7_flip_15 : decode cX7_flip 15 = .ok (.iload_n 3, 1) := by decide +kernel
theorem dX7_flip_16 : decode cX7_flip 16 = .ok (.invokevirtual 137, 3) := by decide +kernel
theorem dX7_flip_19 : decode cX7_flip 19 = .ok (.ifCond .eq 8, 3) := by decide +kernel
theorem dX7_flip_22 : decode cX7_flip 22 = .ok (.iload_n 2, 1) := by decide +kernel
theorem dX7_flip_23 : decode cX7_flip 23 = .ok (.iload_n 3, 1) := by decide +kernel
theorem dX7_flip_24 : decode cX7_flip 24 = .ok (.if_icmp .le 6, 3) := by decide +kernel
theorem dX7_flip_27 : decode cX7_flip 27 = .ok (.ldc 61, 2) := by decide +kernel
theorem dX7_flip_29 : decode cX7_flip 29 = .ok (.ireturn, 1) := by decide +kernel
theorem dX7_flip_30 : decode cX7_flip 30 = .ok (.aload_n 0, 1) := by decide +kernel
theorem dX7_flip_31 : decode cX7_flip 31 = .ok (.aload 4, 2) := by decide +kernel
theorem dX7_flip_33 : decode cX7_flip 33 = .ok (.iload_n 2, 1) := by decide +kernel
theorem dX7_flip_34 : decode cX7_flip 34 = .ok (.iload_n 3, 1) := by decide +kernel
theorem dX7_flip_35 : decode cX7_flip 35 = .ok (.invokevirtual 133, 3) := by decide +kernel
theorem dX7_flip_38 : decode cX7_flip 38 = .ok (.ireturn, 1) := by decide +kernel
theorem dX7_join_0 : decode cX7_join 0 = .ok (.aload_n 0, 1) := by decide +kernel
theorem dX7_join_1 : decode cX7_join 1 = .ok (.iload_n 2, 1) := by decide +kernel
theorem dX7_join_2 : decode cX7_join 2 = .ok (.invokevirtual 140, 3) := by decide +kernel
theorem dX7_join_5 : decode cX7_join 5 = .ok (.astore 5, 2) := by decide +kernel
theorem dX7_join_7 : decode cX7_join 7 = .ok (.aload_n 0, 1) := by decide +kernel
theorem dX7_join_8 : decode cX7_join 8 = .ok (.iload_n 3, 1) := by decide +kernel
theorem dX7_join_9 : decode cX7_join 9 = .ok (.invokevirtual 140, 3) := by decide +kernel
theorem dX7_join_12 : decode cX7_join 12 = .ok (.astore 6, 2) := by decide +kernel
theorem dX7_join_14 : decode cX7_join 14 = .ok (.aload_n 0, 1) := by decide +kernel
theorem dX7_join_15 : decode cX7_join 15 = .ok (.iload 4, 2) := by decide +kernel
theorem dX7_join_17 : decode cX7_join 17 = .ok (.invokevirtual 140, 3) := by decide +kernel
theorem dX7_join_20 : decode cX7_join 20 = .ok (.astore 7, 2) := by decide +kernel
theorem dX7_join_22 : decode cX7_join 22 = .ok (.iload_n 1, 1) := by decide +kernel
theorem dX7_join_23 : decode cX7_join 23 = .ok (.iconst 0, 1) := by decide +kernel
theorem dX7_join_24 : decode cX7_join 24 = .ok (.iconst 3, 1) := by decide +kernel
theorem dX7_join_25 : decode cX7_join 25 = .ok (.invokestatic 57, 3) := by decide +kernel
theorem dX7_join_28 : decode cX7_join 28 = .ok (.ifCond .eq 18, 3) := by decide +kernel
theorem dX7_join_31 : decode cX7_join 31 = .ok (.aload 5, 2) := by decide +kernel
theorem dX7_join_33 : decode cX7_join 33 = .ok (.ifnull 13, 3) := by decide +kernel
theorem dX7_join_36 : decode cX7_join 36 = .ok (.aload 6, 2) := by decide +kernel
theorem dX7_join_38 : decode cX7_join 38 = .ok (.ifnull 8, 3) := by decide +kernel
theorem dX7_join_41 : decode cX7_join 41 = .ok (.aload 7, 2) := by decide +kernel
theorem dX7_join_43 : decode cX7_join 43 = .ok (.ifnonnull 6, 3) := by decide +kernel
theorem dX7_join_46 : decode cX7_join 46 = .ok (.ldc 61, 2) := by decide +kernel
theorem dX7_join_48 : decode cX7_join 48 = .ok (.ireturn, 1) := by decide +kernel
theorem dX7_join_49 : decode cX7_join 49 = .ok (.aload_n 0, 1) := by decide +kernel
theorem dX7_join_50 : decode cX7_join 50 = .ok (.getfield 31, 3) := by decide +kernel
theorem dX7_join_53 : decode cX7_join 53 = .ok (.aload 7, 2) := by decide +kernel
theorem dX7_join_55 : decode cX7_join 55 = .ok (.invokevirtual 144, 3) := by decide +kernel
theorem dX7_join_58 : decode cX7_join 58 = .ok (.aload 7, 2) := by decide +kernel
theorem dX7_join_60 : decode cX7_join 60 = .ok (.iload_n 1, 1) := by decide +kernel
theorem dX7_join_61 : decode cX7_join 61 = .ok (.aload 5, 2) := by decide +kernel
theorem dX7_join_63 : decode cX7_join 63 = .ok (.aload 6, 2) := by decide +kernel
theorem dX7_join_65 : decode cX7_join 65 = .ok (.invokevirtual 148, 3) := by decide +kernel
theorem dX7_join_68 : decode cX7_join 68 = .ok (.aload 7, 2) := by decide +kernel
theorem dX7_join_70 : decode cX7_join 70 = .ok (.invokevirtual 152, 3) := by decide +kernel
theorem dX7_join_73 : decode cX7_join 73 = .ok (.ireturn, 1) := by decide +kernel
theorem dX7_shift_0 : decode cX7_shift 0 = .ok (.aload_n 0, 1) := by decide +kernel
theorem dX7_shift_1 : decode cX7_shift 1 = .ok (.iload_n 1, 1) := by decide +kernel
theorem dX7_shift_2 : decode cX7_shift 2 = .ok (.invokevirtual 140, 3) := by decide +kernel
theorem dX7_shift_5 : decode cX7_shift 5 = .ok (.astore_n 3, 1) := by decide +kernel
theorem dX7_shift_6 : decode cX7_shift 6 = .ok (.aload_n 3, 1) := by decide +kernel
theorem dX7_shift_7 : decode cX7_shift 7 = .ok (.ifnull 16, 3) := by decide +kernel
theorem dX7_shift_10 : decode cX7_shift 10 = .ok (.iload_n 2, 1) := by decide +kernel
theorem dX7_shift_11 : decode cX7_shift 11 = .ok (.sipush (-9999), 3) := by decide +kernel
theorem dX7_shift_14 : decode cX7_shift 14 = .ok (.sipush 9999, 3) := by decide +kernel
theorem dX7_shift_17 : decode cX7_shift 17 = .ok (.invokestatic 57, 3) := by decide +kernel
theorem dX7_shift_20 : decode cX7_shift 20 = .ok (.ifCond .ne 6, 3) := by decide +kernel
theorem dX7_shift_23 : decode cX7_shift 23 = .ok (.ldc 61, 2) := by decide +kernel
theorem dX7_shift_25 : decode cX7_shift 25 = .ok (.ireturn, 1) := by decide +kernel
theorem dX7_shift_26 : decode cX7_shift 26 = .ok (.aload_n 0, 1) := by decide +kernel
theorem dX7_shift_27 : decode cX7_shift 27 = .ok (.getfield 31, 3) := by decide +kernel
theorem dX7_shift_30 : decode cX7_shift 30 = .ok (.aload_n 3, 1) := by decide +kernel
theorem dX7_shift_31 : decode cX7_shift 31 = .ok (.invokevirtual 144, 3) := by decide +kernel
theorem dX7_shift_34 : decode cX7_shift 34 = .ok (.aload_n 3, 1) := by decide +kernel
theorem dX7_shift_35 : decode cX7_shift 35 = .ok (.iload_n 2, 1) := by decide +kernel
theorem dX7_shift_36 : decode cX7_shift 36 = .ok (.invokevirtual 156, 3) := by decide +kernel
theorem dX7_shift_39 : decode cX7_shift 39 = .ok (.aload_n 3, 1) := by decide +kernel
theorem dX7_shift_40 : decode cX7_shift 40 = .ok (.invokevirtual 152, 3) := by decide +kernel
theorem dX7_shift_43 : decode cX7_shift 43 = .ok (.ireturn, 1) := by decide +kernel
theorem dX7_gather_0 : decode cX7_gather 0 = .ok (.aload_n 0, 1) := by decide +kernel
theorem dX7_gather_1 : decode cX7_gather 1 = .ok (.iload_n 1, 1) := by decide +kernel
theorem dX7_gather_2 : decode cX7_gather 2 = .ok (.invokevirtual 140, 3) := by decide +kernel
theorem dX7_gather_5 : decode cX7_gather 5 = .ok (.astore 5, 2) := by decide +kernel
theorem dX7_gather_7 : decode cX7_gather 7 = .ok (.aload 5, 2) := by decide +kernel
theorem dX7_gather_9 : decode cX7_gather 9 = .ok (.ifnull 21, 3) := by decide +kernel
theorem dX7_gather_12 : decode cX7_gather 12 = .ok (.iload_n 2, 1) := by decide +kernel
theorem dX7_gather_13 : decode cX7_gather 13 = .ok (.invokestatic 53, 3) := by decide +kernel
theorem dX7_gather_16 : decode cX7_gather 16 = .ok (.ifCond .eq 14, 3) := by decide +kernel
theorem dX7_gather_19 : decode cX7_gather 19 = .ok (.iload 4, 2) := by decide +kernel
theorem dX7_gather_21 : decode cX7_gather 21 = .ok (.iconst 1, 1) := by decide +kernel
theorem dX7_gather_22 : decode cX7_gather 22 = .ok (.bipush 40, 2) := by decide +kernel
theorem dX7_gather_24 : decode cX7_gather 24 = .ok (.invokestatic 57, 3) := by decide +kernel
theorem dX7_gather_27 : decode cX7_gather 27 = .ok (.ifCond .ne 6, 3) := by decide +kernel
theorem dX7_gather_30 : decode cX7_gather 30 = .ok (.ldc 61, 2) := by decide +kernel
theorem dX7_gather_32 : decode cX7_gather 32 = .ok (.ireturn, 1) := by decide +kernel
theorem dX7_gather_33 : decode cX7_gather 33 = .ok (.aload_n 0, 1) := by decide +kernel
theorem dX7_gather_34 : decode cX7_gather 34 = .ok (.getfield 11, 3) := by decide +kernel
theorem dX7_gather_37 : decode cX7_gather 37 = .ok (.iload_n 2, 1) := by decide +kernel
theorem dX7_gather_38 : decode cX7_gather 38 = .ok (.aaload, 1) := by decide +kernel
theorem dX7_gather_39 : decode cX7_gather 39 = .ok (.astore 6, 2) := by decide +kernel
theorem dX7_gather_41 : decode cX7_gather 41 = .ok (.aload 6, 2) := by decide +kernel
theorem dX7_gather_43 : decode cX7_gather 43 = .ok (.ifnonnull 9, 3) := by decide +kernel
theorem dX7_gather_46 : decode cX7_gather 46 = .ok (.aload_n 0, 1) := by decide +kernel
theorem dX7_gather_47 : decode cX7_gather 47 = .ok (.iconst 1, 1) := by decide +kernel
theorem dX7_gather_48 : decode cX7_gather 48 = .ok (.invokevirtual 62, 3) := by decide +kernel
theorem dX7_gather_51 : decode cX7_gather 51 = .ok (.ireturn, 1) := by decide +kernel
theorem dX7_gather_52 : decode cX7_gather 52 = .ok (.aload 6, 2) := by decide +kernel
theorem dX7_gather_54 : decode cX7_gather 54 = .ok (.iload_n 3, 1) := by decide +kernel
theorem dX7_gather_55 : decode cX7_gather 55 = .ok (.iload 4, 2) := by decide +kernel
theorem dX7_gather_57 : decode cX7_gather 57 = .ok (.invokevirtual 72, 3) := by decide +kernel
theorem dX7_gather_60 : decode cX7_gather 60 = .ok (.ifCond .eq 16, 3) := by decide +kernel
theorem dX7_gather_63 : decode cX7_gather 63 = .ok (.aload 5, 2) := by decide +kernel
theorem dX7_gather_65 : decode cX7_gather 65 = .ok (.aload 6, 2) := by decide +kernel
theorem dX7_gather_67 : decode cX7_gather 67 = .ok (.iload_n 3, 1) := by decide +kernel
theorem dX7_gather_68 : decode cX7_gather 68 = .ok (.iload 4, 2) := by decide +kernel
theorem dX7_gather_70 : decode cX7_gather 70 = .ok (.invokestatic 160, 3) := by decide +kernel
theorem dX7_gather_73 : decode cX7_gather 73 = .ok (.ifCond .ne 9, 3) := by decide +kernel
theorem dX7_gather_76 : decode cX7_gather 76 = .ok (.aload_n 0, 1) := by decide +kernel
theorem dX7_gather_77 : decode cX7_gather 77 = .ok (.iconst 2, 1) := by decide +kernel
theorem dX7_gather_78 : decode cX7_gather 78 = .ok (.invokevirtual 62, 3) := by decide +kernel
theorem dX7_gather_81 : decode cX7_gather 81 = .ok (.ireturn, 1) := by decide +kernel
theorem dX7_gather_82 : decode cX7_gather 82 = .ok (.aload_n 0, 1) := by decide +kernel
theorem dX7_gather_83 : decode cX7_gather 83 = .ok (.getfield 31, 3) := by decide +kernel
theorem dX7_gather_86 : decode cX7_gather 86 = .ok (.aload 5, 2) := by decide +kernel
theorem dX7_gather_88 : decode cX7_gather 88 = .ok (.invokevirtual 144, 3) := by decide +kernel
theorem dX7_gather_91 : decode cX7_gather 91 = .ok (.iload_n 3, 1) := by decide +kernel
theorem dX7_gather_92 : decode cX7_gather 92 = .ok (.istore 7, 2) := by decide +kernel
theorem dX7_gather_94 : decode cX7_gather 94 = .ok (.iload 7, 2) := by decide +kernel
theorem dX7_gather_96 : decode cX7_gather 96 = .ok (.iload_n 3, 1) := by decide +kernel
theorem dX7_gather_97 : decode cX7_gather 97 = .ok (.iload 4, 2) := by decide +kernel
theorem dX7_gather_99 : decode cX7_gather 99 = .ok (.iadd, 1) := by decide +kernel
theorem dX7_gather_100 : decode cX7_gather 100 = .ok (.if_icmp .ge 22, 3) := by decide +kernel
theorem dX7_gather_103 : decode cX7_gather 103 = .ok (.aload 5, 2) := by decide +kernel
theorem dX7_gather_105 : decode cX7_gather 105 = .ok (.aload 6, 2) := by decide +kernel
theorem dX7_gather_107 : decode cX7_gather 107 = .ok (.getfield 83, 3) := by decide +kernel
theorem dX7_gather_110 : decode cX7_gather 110 = .ok (.iload 7, 2) := by decide +kernel
theorem dX7_gather_112 : decode cX7_gather 112 = .ok (.iaload, 1) := by decide +kernel
theorem dX7_gather_113 : decode cX7_gather 113 = .ok (.invokevirtual 164, 3) := by decide +kernel
theorem dX7_gather_116 : decode cX7_gather 116 = .ok (.iinc 7 1, 3) := by decide +kernel
theorem dX7_gather_119 : decode cX7_gather 119 = .ok (.goto (-25), 3) := by decide +kernel
theorem dX7_gather_122 : decode cX7_gather 122 = .ok (.aload_n 0, 1) := by decide +kernel
theorem dX7_gather_123 : decode cX7_gather 123 = .ok (.aload 5, 2) := by decide +kernel
theorem dX7_gather_125 : decode cX7_gather 125 = .ok (.invokevirtual 152, 3) := by decide +kernel
theorem dX7_gather_128 : decode cX7_gather 128 = .ok (.invokevirtual 69, 3) := by decide +kernel
theorem dX7_gather_131 : decode cX7_gather 131 = .ok (.ireturn, 1) := by decide +kernel
theorem dX7_contains_0 : decode cX7_contains 0 = .ok (.aload_n 0, 1) := by decide +kernel
theorem dX7_contains_1 : decode cX7_contains 1 = .ok (.iload_n 1, 1) := by decide +kernel
theorem dX7_contains_2 : decode cX7_contains 2 = .ok (.iload_n 2, 1) := by decide +kernel
theorem dX7_contains_3 : decode cX7_contains 3 = .ok (.invokevirtual 124, 3) := by decide +kernel
theorem dX7_contains_6 : decode cX7_contains 6 = .ok (.astore_n 3, 1) := by decide +kernel
theorem dX7_contains_7 : decode cX7_contains 7 = .ok (.aload_n 3, 1) := by decide +kernel
theorem dX7_contains_8 : decode cX7_contains 8 = .ok (.ifnonnull 6, 3) := by decide +kernel
theorem dX7_contains_11 : decode cX7_contains 11 = .ok (.ldc 61, 2) := by decide +kernel
theorem dX7_contains_13 : decode cX7_contains 13 = .ok (.ireturn, 1) := by decide +kernel
theorem dX7_contains_14 : decode cX7_contains 14 = .ok (.aload_n 3, 1) := by decide +kernel
theorem dX7_contains_15 : decode cX7_contains 15 = .ok (.iload_n 2, 1) := by decide +kernel
theorem dX7_contains_16 : decode cX7_contains 16 = .ok (.invokevirtual 128, 3) := by decide +kernel
theorem dX7_contains_19 : decode cX7_contains 19 = .ok (.ifCond .eq 7, 3) := by decide +kernel
theorem dX7_contains_22 : decode cX7_contains 22 = .ok (.iconst 1, 1) := by decide +kernel
theorem dX7_contains_23 : decode cX7_contains 23 = .ok (.goto 4, 3) := by decide +kernel
theorem dX7_contains_26 : decode cX7_contains 26 = .ok (.iconst 0, 1) := by decide +kernel
theorem dX7_contains_27 : decode cX7_contains 27 = .ok (.ireturn, 1) := by decide +kernel
theorem dX7_keys_0 : decode cX7_keys 0 = .ok (.aload_n 0, 1) := by decide +kernel
theorem dX7_keys_1 : decode cX7_keys 1 = .ok (.iload_n 1, 1) := by decide +kernel
theorem dX7_keys_2 : decode cX7_keys 2 = .ok (.invokevirtual 140, 3) := by decide +kernel
theorem dX7_keys_5 : decode cX7_keys 5 = .ok (.astore_n 2, 1) := by decide +kernel
theorem dX7_keys_6 : decode cX7_keys 6 = .ok (.aload_n 2, 1) := by decide +kernel
theorem dX7_keys_7 : decode cX7_keys 7 = .ok (.ifnonnull 8, 3) := by decide +kernel
theorem dX7_keys_10 : decode cX7_keys 10 = .ok (.ldc 61, 2) := by decide +kernel
theorem dX7_keys_12 : decode cX7_keys 12 = .ok (.goto 7, 3) := by decide +kernel
theorem dX7_keys_15 : decode cX7_keys 15 = .ok (.aload_n 2, 1) := by decide +kernel
theorem dX7_keys_16 : decode cX7_keys 16 = .ok (.invokevirtual 152, 3) := by decide +kernel
theorem dX7_keys_19 : decode cX7_keys 19 = .ok (.ireturn, 1) := by decide +kernel
theorem dX7_end_0 : decode cX7_end 0 = .ok (.aload_n 0, 1) := by decide +kernel
theorem dX7_end_1 : decode cX7_end 1 = .ok (.iload_n 1, 1) := by decide +kernel
theorem dX7_end_2 : decode cX7_end 2 = .ok (.invokevirtual 140, 3) := by decide +kernel
theorem dX7_end_5 : decode cX7_end 5 = .ok (.astore_n 3, 1) := by decide +kernel
theorem dX7_end_6 : decode cX7_end 6 = .ok (.aload_n 3, 1) := by decide +kernel
theorem dX7_end_7 : decode cX7_end 7 = .ok (.ifnull 12, 3) := by decide +kernel
theorem dX7_end_10 : decode cX7_end 10 = .ok (.iload_n 2, 1) := by decide +kernel
theorem dX7_end_11 : decode cX7_end 11 = .ok (.iconst 0, 1) := by decide +kernel
theorem dX7_end_12 : decode cX7_end 12 = .ok (.iconst 1, 1) := by decide +kernel
theorem dX7_end_13 : decode cX7_end 13 = .ok (.invokestatic 57, 3) := by decide +kernel
theorem dX7_end_16 : decode cX7_end 16 = .ok (.ifCond .ne 6, 3) := by decide +kernel
theorem dX7_end_19 : decode cX7_end 19 = .ok (.ldc 61, 2) := by decide +kernel
theorem dX7_end_21 : decode cX7_end 21 = .ok (.ireturn, 1) := by decide +kernel
theorem dX7_end_22 : decode cX7_end 22 = .ok (.iload_n 2, 1) := by decide +kernel
theorem dX7_end_23 : decode cX7_end 23 = .ok (.ifCond .ne 10, 3) := by decide +kernel
theorem dX7_end_26 : decode cX7_end 26 = .ok (.aload_n 3, 1) := by decide +kernel
theorem dX7_end_27 : decode cX7_end 27 = .ok (.invokevirtual 167, 3) := by decide +kernel
theorem dX7_end_30 : decode cX7_end 30 = .ok (.goto 7, 3) := by decide +kernel
theorem dX7_end_33 : decode cX7_end 33 = .ok (.aload_n 3, 1) := by decide +kernel
theorem dX7_end_34 : decode cX7_end 34 = .ok (.invokevirtual 170, 3) := by decide +kernel
theorem dX7_end_37 : decode cX7_end 37 = .ok (.ireturn, 1) := by decide +kernel
theorem dX7_next_0 : decode cX7_next 0 = .ok (.aload_n 0, 1) := by decide +kernel
theorem dX7_next_1 : decode cX7_next 1 = .ok (.iload_n 1, 1) := by decide +kernel
theorem dX7_next_2 : decode cX7_next 2 = .ok (.iload_n 2, 1) := by decide +kernel
theorem dX7_next_3 : decode cX7_next 3 = .ok (.invokevirtual 124, 3) := by decide +kernel
theorem dX7_next_6 : decode cX7_next 6 = .ok (.astore_n 3, 1) := by decide +kernel
theorem dX7_next_7 : decode cX7_next 7 = .ok (.aload_n 3, 1) := by decide +kernel
theorem dX7_next_8 : decode cX7_next 8 = .ok (.ifnonnull 8, 3) := by decide +kernel
theorem dX7_next_11 : decode cX7_next 11 = .ok (.ldc 61, 2) := by decide +kernel
theorem dX7_next_13 : decode cX7_next 13 = .ok (.goto 8, 3) := by decide +kernel
theorem dX7_next_16 : decode cX7_next 16 = .ok (.aload_n 3, 1) := by decide +kernel
theorem dX7_next_17 : decode cX7_next 17 = .ok (.iload_n 2, 1) := by decide +kernel
theorem dX7_next_18 : decode cX7_next 18 = .ok (.invokevirtual 173, 3) := by decide +kernel
theorem dX7_next_21 : decode cX7_next 21 = .ok (.ireturn, 1) := by decide +kernel
theorem dX7_beside_0 : decode cX7_beside 0 = .ok (.aload_n 0, 1) := by decide +kernel
theorem dX7_beside_1 : decode cX7_beside 1 = .ok (.iload_n 1, 1) := by decide +kernel
theorem dX7_beside_2 : decode cX7_beside 2 = .ok (.iload_n 2, 1) := by decide +kernel
theorem dX7_beside_3 : decode cX7_beside 3 = .ok (.invokevirtual 124, 3) := by decide +kernel
theorem dX7_beside_6 : decode cX7_beside 6 = .ok (.astore 4, 2) := by decide +kernel
theorem dX7_beside_8 : decode cX7_beside 8 = .ok (.aload 4, 2) := by decide +kernel
theorem dX7_beside_10 : decode cX7_beside 10 = .ok (.ifnull 12, 3) := by decide +kernel
theorem dX7_beside_13 : decode cX7_beside 13 = .ok (.iload_n 3, 1) := by decide +kernel
theorem dX7_beside_14 : decode cX7_beside 14 = .ok (.iconst 0, 1) := by decide +kernel
theorem dX7_beside_15 : decode cX7_beside 15 = .ok (.iconst 1, 1) := by decide +kernel
theorem dX7_beside_16 : decode cX7_beside 16 = .ok (.invokestatic 57, 3) := by decide +kernel
theorem dX7_beside_19 : decode cX7_beside 19 = .ok (.ifCond .ne 6, 3) := by decide +kernel
theorem dX7_beside_22 : decode cX7_beside 22 = .ok (.ldc 61, 2) := by decide +kernel
theorem dX7_beside_24 : decode cX7_beside 24 = .ok (.ireturn, 1) := by decide +kernel
theorem dX7_beside_25 : decode cX7_beside 25 = .ok (.iload_n 3, 1) := by decide +kernel
theorem dX7_beside_26 : decode cX7_beside 26 = .ok (.ifCond .ne 14, 3) := by decide +kernel
theorem dX7_beside_29 : decode cX7_beside 29 = .ok (.aload 4, 2) := by decide +kernel
theorem dX7_beside_31 : decode cX7_beside 31 = .ok (.iload_n 2, 1) := by decide +kernel
theorem dX7_beside_32 : decode cX7_beside 32 = .ok (.iconst 1, 1) := by decide +kernel
theorem dX7_beside_33 : decode cX7_beside 33 = .ok (.iadd, 1) := by decide +kernel
theorem dX7_beside_34 : decode cX7_beside 34 = .ok (.invokevirtual 176, 3) := by decide +kernel
theorem dX7_beside_37 : decode cX7_beside 37 = .ok (.goto 11, 3) := by decide +kernel
theorem dX7_beside_40 : decode cX7_beside 40 = .ok (.aload 4, 2) := by decide +kernel
theorem dX7_beside_42 : decode cX7_beside 42 = .ok (.iload_n 2, 1) := by decide +kernel
theorem dX7_beside_43 : decode cX7_beside 43 = .ok (.iconst 1, 1) := by decide +kernel
theorem dX7_beside_44 : decode cX7_beside 44 = .ok (.isub, 1) := by decide +kernel
theorem dX7_beside_45 : decode cX7_beside 45 = .ok (.invokevirtual 179, 3) := by decide +kernel
theorem dX7_beside_48 : decode cX7_beside 48 = .ok (.ireturn, 1) := by decide +kernel
theorem dX7_steps_0 : decode cX7_steps 0 = .ok (.aload_n 0, 1) := by decide +kernel
theorem dX7_steps_1 : decode cX7_steps 1 = .ok (.iload_n 1, 1) := by decide +kernel
theorem dX7_steps_2 : decode cX7_steps 2 = .ok (.iload_n 2, 1) := by decide +kernel
theorem dX7_steps_3 : decode cX7_steps 3 = .ok (.invokevirtual 124, 3) := by decide +kernel
theorem dX7_steps_6 : decode cX7_steps 6 = .ok (.astore_n 3, 1) := by decide +kernel
theorem dX7_steps_7 : decode cX7_steps 7 = .ok (.aload_n 3, 1) := by decide +kernel
theorem dX7_steps_8 : decode cX7_steps 8 = .ok (.ifnonnull 8, 3) := by decide +kernel
theorem dX7_steps_11 : decode cX7_steps 11 = .ok (.ldc 61, 2) := by decide +kernel
theorem dX7_steps_13 : decode cX7_steps 13 = .ok (.goto 8, 3) := by decide +kernel
theorem dX7_steps_16 : decode cX7_steps 16 = .ok (.aload_n 3, 1) := by decide +kernel
theorem dX7_steps_17 : decode cX7_steps 17 = .ok (.iload_n 2, 1) := by decide +kernel
theorem dX7_steps_18 : decode cX7_steps 18 = .ok (.invokevirtual 182, 3) := by decide +kernel
theorem dX7_steps_21 : decode cX7_steps 21 = .ok (.ireturn, 1) := by decide +kernel
theorem dX7_tree_0 : decode cX7_tree 0 = .ok (.aload_n 0, 1) := by decide +kernel
theorem dX7_tree_1 : decode cX7_tree 1 = .ok (.iload_n 1, 1) := by decide +kernel
theorem dX7_tree_2 : decode cX7_tree 2 = .ok (.invokevirtual 140, 3) := by decide +kernel
theorem dX7_tree_5 : decode cX7_tree 5 = .ok (.astore_n 3, 1) := by decide +kernel
theorem dX7_tree_6 : decode cX7_tree 6 = .ok (.aload_n 3, 1) := by decide +kernel
theorem dX7_tree_7 : decode cX7_tree 7 = .ok (.ifnull 12, 3) := by decide +kernel
theorem dX7_tree_10 : decode cX7_tree 10 = .ok (.iload_n 2, 1) := by decide +kernel
theorem dX7_tree_11 : decode cX7_tree 11 = .ok (.iconst 0, 1) := by decide +kernel
theorem dX7_tree_12 : decode cX7_tree 12 = .ok (.iconst 1, 1) := by decide +kernel
theorem dX7_tree_13 : decode cX7_tree 13 = .ok (.invokestatic 57, 3) := by decide +kernel
theorem dX7_tree_16 : decode cX7_tree 16 = .ok (.ifCond .ne 6, 3) := by decide +kernel
theorem dX7_tree_19 : decode cX7_tree 19 = .ok (.ldc 61, 2) := by decide +kernel
theorem dX7_tree_21 : decode cX7_tree 21 = .ok (.ireturn, 1) := by decide +kernel
theorem dX7_tree_22 : decode cX7_tree 22 = .ok (.iload_n 2, 1) := by decide +kernel
theorem dX7_tree_23 : decode cX7_tree 23 = .ok (.ifCond .ne 10, 3) := by decide +kernel
theorem dX7_tree_26 : decode cX7_tree 26 = .ok (.aload_n 3, 1) := by decide +kernel
theorem dX7_tree_27 : decode cX7_tree 27 = .ok (.invokevirtual 185, 3) := by decide +kernel
theorem dX7_tree_30 : decode cX7_tree 30 = .ok (.goto 7, 3) := by decide +kernel
theorem dX7_tree_33 : decode cX7_tree 33 = .ok (.aload_n 3, 1) := by decide +kernel
theorem dX7_tree_34 : decode cX7_tree 34 = .ok (.invokevirtual 188, 3) := by decide +kernel
theorem dX7_tree_37 : decode cX7_tree 37 = .ok (.ireturn, 1) := by decide +kernel
theorem dX7_cluster_0 : decode cX7_cluster 0 = .ok (.aload_n 0, 1) := by decide +kernel
theorem dX7_cluster_1 : decode cX7_cluster 1 = .ok (.iload_n 1, 1) := by decide +kernel
theorem dX7_cluster_2 : decode cX7_cluster 2 = .ok (.invokevirtual 140, 3) := by decide +kernel
theorem dX7_cluster_5 : decode cX7_cluster 5 = .ok (.astore 4, 2) := by decide +kernel
theorem dX7_cluster_7 : decode cX7_cluster 7 = .ok (.aload 4, 2) := by decide +kernel
theorem dX7_cluster_9 : decode cX7_cluster 9 = .ok (.ifnull 21, 3) := by decide +kernel
theorem dX7_cluster_12 : decode cX7_cluster 12 = .ok (.aload 4, 2) := by decide +kernel
theorem dX7_cluster_14 : decode cX7_cluster 14 = .ok (.iload_n 2, 1) := by decide +kernel
theorem dX7_cluster_15 : decode cX7_cluster 15 = .ok (.invokevirtual 191, 3) := by decide +kernel
theorem dX7_cluster_18 : decode cX7_cluster 18 = .ok (.ifCond .eq 12, 3) := by decide +kernel
theorem dX7_cluster_21 : decode cX7_cluster 21 = .ok (.iload_n 3, 1) := by decide +kernel
theorem dX7_cluster_22 : decode cX7_cluster 22 = .ok (.iconst 0, 1) := by decide +kernel
theorem dX7_cluster_23 : decode cX7_cluster 23 = .ok (.iconst 2, 1) := by decide +kernel
theorem dX7_cluster_24 : decode cX7_cluster 24 = .ok (.invokestatic 57, 3) := by decide +kernel
theorem dX7_cluster_27 : decode cX7_cluster 27 = .ok (.ifCond .ne 6, 3) := by decide +kernel
theorem dX7_cluster_30 : decode cX7_cluster 30 = .ok (.ldc 61, 2) := by decide +kernel
theorem dX7_cluster_32 : decode cX7_cluster 32 = .ok (.ireturn, 1) := by decide +kernel
theorem dX7_cluster_33 : decode cX7_cluster 33 = .ok (.aload 4, 2) := by decide +kernel
theorem dX7_cluster_35 : decode cX7_cluster 35 = .ok (.iload_n 2, 1) := by decide +kernel
theorem dX7_cluster_36 : decode cX7_cluster 36 = .ok (.aload 4, 2) := by decide +kernel
theorem dX7_cluster_38 : decode cX7_cluster 38 = .ok (.invokevirtual 167, 3) := by decide +kernel
theorem dX7_cluster_41 : decode cX7_cluster 41 = .ok (.invokevirtual 194, 3) := by decide +kernel
theorem dX7_cluster_44 : decode cX7_cluster 44 = .ok (.aload 4, 2) := by decide +kernel
theorem dX7_cluster_46 : decode cX7_cluster 46 = .ok (.getfield 197, 3) := by decide +kernel
theorem dX7_cluster_49 : decode cX7_cluster 49 = .ok (.iload_n 3, 1) := by decide +kernel
theorem dX7_cluster_50 : decode cX7_cluster 50 = .ok (.invokestatic 200, 3) := by decide +kernel
theorem dX7_cluster_53 : decode cX7_cluster 53 = .ok (.ireturn, 1) := by decide +kernel
theorem dX7_summary_0 : decode cX7_summary 0 = .ok (.aload_n 0, 1) := by decide +kernel
theorem dX7_summary_1 : decode cX7_summary 1 = .ok (.iload_n 1, 1) := by decide +kernel
theorem dX7_summary_2 : decode cX7_summary 2 = .ok (.invokevirtual 140, 3) := by decide +kernel
theorem dX7_summary_5 : decode cX7_summary 5 = .ok (.astore_n 3, 1) := by decide +kernel
theorem dX7_summary_6 : decode cX7_summary 6 = .ok (.aload_n 3, 1) := by decide +kernel
theorem dX7_summary_7 : decode cX7_summary 7 = .ok (.ifnull 12, 3) := by decide +kernel
theorem dX7_summary_10 : decode cX7_summary 10 = .ok (.iload_n 2, 1) := by decide +kernel
theorem dX7_summary_11 : decode cX7_summary 11 = .ok (.iconst 0, 1) := by decide +kernel
theorem dX7_summary_12 : decode cX7_summary 12 = .ok (.iconst 2, 1) := by decide +kernel
theorem dX7_summary_13 : decode cX7_summary 13 = .ok (.invokestatic 57, 3) := by decide +kernel
theorem dX7_summary_16 : decode cX7_summary 16 = .ok (.ifCond .ne 6, 3) := by decide +kernel
theorem dX7_summary_19 : decode cX7_summary 19 = .ok (.ldc 61, 2) := by decide +kernel
theorem dX7_summary_21 : decode cX7_summary 21 = .ok (.ireturn, 1) := by decide +kernel
theorem dX7_summary_22 : decode cX7_summary 22 = .ok (.aload_n 3, 1) := by decide +kernel
theorem dX7_summary_23 : decode cX7_summary 23 = .ok (.invokevirtual 206, 3) := by decide +kernel
theorem dX7_summary_26 : decode cX7_summary 26 = .ok (.aload_n 3, 1) := by decide +kernel
theorem dX7_summary_27 : decode cX7_summary 27 = .ok (.getfield 209, 3) := by decide +kernel
theorem dX7_summary_30 : decode cX7_summary 30 = .ok (.iload_n 2, 1) := by decide +kernel
theorem dX7_summary_31 : decode cX7_summary 31 = .ok (.invokestatic 200, 3) := by decide +kernel
theorem dX7_summary_34 : decode cX7_summary 34 = .ok (.ireturn, 1) := by decide +kernel
theorem dX7_word_0 : decode cX7_word 0 = .ok (.aload_n 0, 1) := by decide +kernel
theorem dX7_word_1 : decode cX7_word 1 = .ok (.iload_n 1, 1) := by decide +kernel
theorem dX7_word_2 : decode cX7_word 2 = .ok (.invokevirtual 140, 3) := by decide +kernel
theorem dX7_word_5 : decode cX7_word 5 = .ok (.astore 4, 2) := by decide +kernel
theorem dX7_word_7 : decode cX7_word 7 = .ok (.aload 4, 2) := by decide +kernel
theorem dX7_word_9 : decode cX7_word 9 = .ok (.ifnull 13, 3) := by decide +kernel
theorem dX7_word_12 : decode cX7_word 12 = .ok (.aload 4, 2) := by decide +kernel
theorem dX7_word_14 : decode cX7_word 14 = .ok (.iload_n 2, 1) := by decide +kernel
theorem dX7_word_15 : decode cX7_word 15 = .ok (.iload_n 3, 1) := by decide +kernel
theorem dX7_word_16 : decode cX7_word 16 = .ok (.invokevirtual 212, 3) := by decide +kernel
theorem dX7_word_19 : decode cX7_word 19 = .ok (.ifCond .ne 8, 3) := by decide +kernel
theorem dX7_word_22 : decode cX7_word 22 = .ok (.ldc 61, 2) := by decide +kernel
theorem dX7_word_24 : decode cX7_word 24 = .ok (.goto 10, 3) := by decide +kernel
theorem dX7_word_27 : decode cX7_word 27 = .ok (.aload 4, 2) := by decide +kernel
theorem dX7_word_29 : decode cX7_word 29 = .ok (.iload_n 2, 1) := by decide +kernel
theorem dX7_word_30 : decode cX7_word 30 = .ok (.iload_n 3, 1) := by decide +kernel
theorem dX7_word_31 : decode cX7_word 31 = .ok (.invokevirtual 215, 3) := by decide +kernel
theorem dX7_word_34 : decode cX7_word 34 = .ok (.ireturn, 1) := by decide +kernel
theorem dX7_bits_0 : decode cX7_bits 0 = .ok (.aload_n 0, 1) := by decide +kernel
theorem dX7_bits_1 : decode cX7_bits 1 = .ok (.iload_n 1, 1) := by decide +kernel
theorem dX7_bits_2 : decode cX7_bits 2 = .ok (.invokevirtual 140, 3) := by decide +kernel
theorem dX7_bits_5 : decode cX7_bits 5 = .ok (.astore 5, 2) := by decide +kernel
theorem dX7_bits_7 : decode cX7_bits 7 = .ok (.aload 5, 2) := by decide +kernel
theorem dX7_bits_9 : decode cX7_bits 9 = .ok (.ifnull 23, 3) := by decide +kernel
theorem dX7_bits_12 : decode cX7_bits 12 = .ok (.aload 5, 2) := by decide +kernel
theorem dX7_bits_14 : decode cX7_bits 14 = .ok (.iload_n 2, 1) := by decide +kernel
theorem dX7_bits_15 : decode cX7_bits 15 = .ok (.iload_n 3, 1) := by decide +kernel
theorem dX7_bits_16 : decode cX7_bits 16 = .ok (.invokevirtual 212, 3) := by decide +kernel
theorem dX7_bits_19 : decode cX7_bits 19 = .ok (.ifCond .eq 13, 3) := by decide +kernel
theorem dX7_bits_22 : decode cX7_bits 22 = .ok (.iload 4, 2) := by decide +kernel
theorem dX7_bits_24 : decode cX7_bits 24 = .ok (.iconst 0, 1) := by decide +kernel
theorem dX7_bits_25 : decode cX7_bits 25 = .ok (.iconst 2, 1) := by decide +kernel
theorem dX7_bits_26 : decode cX7_bits 26 = .ok (.invokestatic 57, 3) := by decide +kernel
theorem dX7_bits_29 : decode cX7_bits 29 = .ok (.ifCond .ne 6, 3) := by decide +kernel
theorem dX7_bits_32 : decode cX7_bits 32 = .ok (.ldc 61, 2) := by decide +kernel
theorem dX7_bits_34 : decode cX7_bits 34 = .ok (.ireturn, 1) := by decide +kernel
theorem dX7_bits_35 : decode cX7_bits 35 = .ok (.aload 5, 2) := by decide +kernel
theorem dX7_bits_37 : decode cX7_bits 37 = .ok (.iload_n 2, 1) := by decide +kernel
theorem dX7_bits_38 : decode cX7_bits 38 = .ok (.iload_n 3, 1) := by decide +kernel
theorem dX7_bits_39 : decode cX7_bits 39 = .ok (.invokevirtual 215, 3) := by decide +kernel
theorem dX7_bits_42 : decode cX7_bits 42 = .ok (.istore 6, 2) := by decide +kernel
theorem dX7_bits_44 : decode cX7_bits 44 = .ok (.iload 4, 2) := by decide +kernel
theorem dX7_bits_46 : decode cX7_bits 46 = .ok (.iconst 2, 1) := by decide +kernel
theorem dX7_bits_47 : decode cX7_bits 47 = .ok (.if_icmp .ne 9, 3) := by decide +kernel
theorem dX7_bits_50 : decode cX7_bits 50 = .ok (.iload 6, 2) := by decide +kernel
theorem dX7_bits_52 : decode cX7_bits 52 = .ok (.invokestatic 218, 3) := by decide +kernel
theorem dX7_bits_55 : decode cX7_bits 55 = .ok (.ireturn, 1) := by decide +kernel
theorem dX7_bits_56 : decode cX7_bits 56 = .ok (.iload 4, 2) := by decide +kernel
theorem dX7_bits_58 : decode cX7_bits 58 = .ok (.ifCond .ne 11, 3) := by decide +kernel
theorem dX7_bits_61 : decode cX7_bits 61 = .ok (.iload 6, 2) := by decide +kernel
theorem dX7_bits_63 : decode cX7_bits 63 = .ok (.invokestatic 223, 3) := by decide +kernel
theorem dX7_bits_66 : decode cX7_bits 66 = .ok (.goto 8, 3) := by decide +kernel
theorem dX7_bits_69 : decode cX7_bits 69 = .ok (.iload 6, 2) := by decide +kernel
theorem dX7_bits_71 : decode cX7_bits 71 = .ok (.invokestatic 226, 3) := by decide +kernel
theorem dX7_bits_74 : decode cX7_bits 74 = .ok (.ireturn, 1) := by decide +kernel
theorem dX7_share_0 : decode cX7_share 0 = .ok (.aload_n 0, 1) := by decide +kernel
theorem dX7_share_1 : decode cX7_share 1 = .ok (.iload_n 1, 1) := by decide +kernel
theorem dX7_share_2 : decode cX7_share 2 = .ok (.invokevirtual 140, 3) := by decide +kernel
theorem dX7_share_5 : decode cX7_share 5 = .ok (.astore_n 3, 1) := by decide +kernel
theorem dX7_share_6 : decode cX7_share 6 = .ok (.aload_n 3, 1) := by decide +kernel
theorem dX7_share_7 : decode cX7_share 7 = .ok (.ifnull 12, 3) := by decide +kernel
theorem dX7_share_10 : decode cX7_share 10 = .ok (.iload_n 2, 1) := by decide +kernel
theorem dX7_share_11 : decode cX7_share 11 = .ok (.iconst 0, 1) := by decide +kernel
theorem dX7_share_12 : decode cX7_share 12 = .ok (.iconst 2, 1) := by decide +kernel
theorem dX7_share_13 : decode cX7_share 13 = .ok (.invokestatic 57, 3) := by decide +kernel
theorem dX7_share_16 : decode cX7_share 16 = .ok (.ifCond .ne 6, 3) := by decide +kernel
theorem dX7_share_19 : decode cX7_share 19 = .ok (.ldc 61, 2) := by decide +kernel
theorem dX7_share_21 : decode cX7_share 21 = .ok (.ireturn, 1) := by decide +kernel
theorem dX7_share_22 : decode cX7_share 22 = .ok (.aload_n 3, 1) := by decide +kernel
theorem dX7_share_23 : decode cX7_share 23 = .ok (.invokevirtual 152, 3) := by decide +kernel
theorem dX7_share_26 : decode cX7_share 26 = .ok (.istore 4, 2) := by decide +kernel
theorem dX7_share_28 : decode cX7_share 28 = .ok (.iload 4, 2) := by decide +kernel
theorem dX7_share_30 : decode cX7_share 30 = .ok (.ifCond .ne 5, 3) := by decide +kernel
theorem dX7_share_33 : decode cX7_share 33 = .ok (.iconst 0, 1) := by decide +kernel
theorem dX7_share_34 : decode cX7_share 34 = .ok (.ireturn, 1) := by decide +kernel
theorem dX7_share_35 : decode cX7_share 35 = .ok (.iload_n 2, 1) := by decide +kernel
theorem dX7_share_36 : decode cX7_share 36 = .ok (.ifCond .ne 13, 3) := by decide +kernel
theorem dX7_share_39 : decode cX7_share 39 = .ok (.iload 4, 2) := by decide +kernel
theorem dX7_share_41 : decode cX7_share 41 = .ok (.aload_n 3, 1) := by decide +kernel
theorem dX7_share_42 : decode cX7_share 42 = .ok (.getfield 229, 3) := by decide +kernel
theorem dX7_share_45 : decode cX7_share 45 = .ok (.invokestatic 232, 3) := by decide +kernel
theorem dX7_share_48 : decode cX7_share 48 = .ok (.ireturn, 1) := by decide +kernel
theorem dX7_share_49 : decode cX7_share 49 = .ok (.iload_n 2, 1) := by decide +kernel
theorem dX7_share_50 : decode cX7_share 50 = .ok (.iconst 1, 1) := by decide +kernel
theorem dX7_share_51 : decode cX7_share 51 = .ok (.if_icmp .ne 15, 3) := by decide +kernel
theorem dX7_share_54 : decode cX7_share 54 = .ok (.aload_n 3, 1) := by decide +kernel
theorem dX7_share_55 : decode cX7_share 55 = .ok (.invokevirtual 235, 3) := by decide +kernel
theorem dX7_share_58 : decode cX7_share 58 = .ok (.iload 4, 2) := by decide +kernel
theorem dX7_share_60 : decode cX7_share 60 = .ok (.invokestatic 232, 3) := by decide +kernel
theorem dX7_share_63 : decode cX7_share 63 = .ok (.goto 10, 3) := by decide +kernel
theorem dX7_share_66 : decode cX7_share 66 = .ok (.aload_n 3, 1) := by decide +kernel
theorem dX7_share_67 : decode cX7_share 67 = .ok (.invokevirtual 235, 3) := by decide +kernel
theorem dX7_share_70 : decode cX7_share 70 = .ok (.iload 4, 2) := by decide +kernel
theorem dX7_share_72 : decode cX7_share 72 = .ok (.idiv, 1) := by decide +kernel
theorem dX7_share_73 : decode cX7_share 73 = .ok (.ireturn, 1) := by decide +kernel
theorem dX7_rank_0 : decode cX7_rank 0 = .ok (.aload_n 0, 1) := by decide +kernel
theorem dX7_rank_1 : decode cX7_rank 1 = .ok (.iload_n 1, 1) := by decide +kernel
theorem dX7_rank_2 : decode cX7_rank 2 = .ok (.iload_n 2, 1) := by decide +kernel
theorem dX7_rank_3 : decode cX7_rank 3 = .ok (.invokevirtual 124, 3) := by decide +kernel
theorem dX7_rank_6 : decode cX7_rank 6 = .ok (.astore_n 3, 1) := by decide +kernel
theorem dX7_rank_7 : decode cX7_rank 7 = .ok (.aload_n 3, 1) := by decide +kernel
theorem dX7_rank_8 : decode cX7_rank 8 = .ok (.ifnonnull 8, 3) := by decide +kernel
theorem dX7_rank_11 : decode cX7_rank 11 = .ok (.ldc 61, 2) := by decide +kernel
theorem dX7_rank_13 : decode cX7_rank 13 = .ok (.goto 11, 3) := by decide +kernel
theorem dX7_rank_16 : decode cX7_rank 16 = .ok (.aload_n 3, 1) := by decide +kernel
theorem dX7_rank_17 : decode cX7_rank 17 = .ok (.iconst 0, 1) := by decide +kernel
theorem dX7_rank_18 : decode cX7_rank 18 = .ok (.iload_n 2, 1) := by decide +kernel
theorem dX7_rank_19 : decode cX7_rank 19 = .ok (.iconst 1, 1) := by decide +kernel
theorem dX7_rank_20 : decode cX7_rank 20 = .ok (.isub, 1) := by decide +kernel
theorem dX7_rank_21 : decode cX7_rank 21 = .ok (.invokevirtual 238, 3) := by decide +kernel
theorem dX7_rank_24 : decode cX7_rank 24 = .ok (.ireturn, 1) := by decide +kernel
theorem dX7_nth_0 : decode cX7_nth 0 = .ok (.aload_n 0, 1) := by decide +kernel
theorem dX7_nth_1 : decode cX7_nth 1 = .ok (.iload_n 1, 1) := by decide +kernel
theorem dX7_nth_2 : decode cX7_nth 2 = .ok (.invokevirtual 140, 3) := by decide +kernel
theorem dX7_nth_5 : decode cX7_nth 5 = .ok (.astore_n 3, 1) := by decide +kernel
theorem dX7_nth_6 : decode cX7_nth 6 = .ok (.aload_n 3, 1) := by decide +kernel
theorem dX7_nth_7 : decode cX7_nth 7 = .ok (.ifnull 7, 3) := by decide +kernel
theorem dX7_nth_10 : decode cX7_nth 10 = .ok (.iload_n 2, 1) := by decide +kernel
theorem dX7_nth_11 : decode cX7_nth 11 = .ok (.ifCond .ge 8, 3) := by decide +kernel
theorem dX7_nth_14 : decode cX7_nth 14 = .ok (.ldc 61, 2) := by decide +kernel
theorem dX7_nth_16 : decode cX7_nth 16 = .ok (.goto 8, 3) := by decide +kernel
theorem dX7_nth_19 : decode cX7_nth 19 = .ok (.aload_n 3, 1) := by decide +kernel
theorem dX7_nth_20 : decode cX7_nth 20 = .ok (.iload_n 2, 1) := by decide +kernel
theorem dX7_nth_21 : decode cX7_nth 21 = .ok (.invokevirtual 241, 3) := by decide +kernel
theorem dX7_nth_24 : decode cX7_nth 24 = .ok (.ireturn, 1) := by decide +kernel
theorem dX7_near_0 : decode cX7_near 0 = .ok (.aload_n 0, 1) := by decide +kernel
theorem dX7_near_1 : decode cX7_near 1 = .ok (.iload_n 1, 1) := by decide +kernel
theorem dX7_near_2 : decode cX7_near 2 = .ok (.iload_n 2, 1) := by decide +kernel
theorem dX7_near_3 : decode cX7_near 3 = .ok (.invokevirtual 124, 3) := by decide +kernel
theorem dX7_near_6 : decode cX7_near 6 = .ok (.astore_n 3, 1) := by decide +kernel
theorem dX7_near_7 : decode cX7_near 7 = .ok (.aload_n 3, 1) := by decide +kernel
theorem dX7_near_8 : decode cX7_near 8 = .ok (.ifnonnull 8, 3) := by decide +kernel
theorem dX7_near_11 : decode cX7_near 11 = .ok (.ldc 61, 2) := by decide +kernel
theorem dX7_near_13 : decode cX7_near 13 = .ok (.goto 8, 3) := by decide +kernel
theorem dX7_near_16 : decode cX7_near 16 = .ok (.aload_n 3, 1) := by decide +kernel
theorem dX7_near_17 : decode cX7_near 17 = .ok (.iload_n 2, 1) := by decide +kernel
theorem dX7_near_18 : decode cX7_near 18 = .ok (.invokevirtual 244, 3) := by decide +kernel
