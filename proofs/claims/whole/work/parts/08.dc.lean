theorem dX5_init_0 : decode cX5_init 0 = .ok (.aload_n 0, 1) := by decide +kernel
theorem dX5_init_1 : decode cX5_init 1 = .ok (.invokespecial 3, 3) := by decide +kernel
theorem dX5_init_4 : decode cX5_init 4 = .ok (.aload_n 0, 1) := by decide +kernel
theorem dX5_init_5 : decode cX5_init 5 = .ok (.iconst 4, 1) := by decide +kernel
theorem dX5_init_6 : decode cX5_init 6 = .ok (.anewarray 9, 3) := by decide +kernel
theorem dX5_init_9 : decode cX5_init 9 = .ok (.putfield 11, 3) := by decide +kernel
theorem dX5_init_12 : decode cX5_init 12 = .ok (.aload_n 0, 1) := by decide +kernel
theorem dX5_init_13 : decode cX5_init 13 = .ok (.iconst 0, 1) := by decide +kernel
theorem dX5_init_14 : decode cX5_init 14 = .ok (.putfield 17, 3) := by decide +kernel
theorem dX5_init_17 : decode cX5_init 17 = .ok (.aload_n 0, 1) := by decide +kernel
theorem dX5_init_18 : decode cX5_init 18 = .ok (.iload_n 1, 1) := by decide +kernel
theorem dX5_init_19 : decode cX5_init 19 = .ok (.putfield 21, 3) := by decide +kernel
theorem dX5_init_22 : decode cX5_init 22 = .ok (.aload_n 0, 1) := by decide +kernel
theorem dX5_init_23 : decode cX5_init 23 = .ok (.iconst 1, 1) := by decide +kernel
theorem dX5_init_24 : decode cX5_init 24 = .ok (.iload_n 1, 1) := by decide +kernel
theorem dX5_init_25 : decode cX5_init 25 = .ok (.ishl, 1) := by decide +kernel
theorem dX5_init_26 : decode cX5_init 26 = .ok (.putfield 24, 3) := by decide +kernel
theorem dX5_init_29 : decode cX5_init 29 = .ok (.return_, 1) := by decide +kernel
theorem dX5_append_0 : decode cX5_append 0 = .ok (.aload_n 0, 1) := by decide +kernel
theorem dX5_append_1 : decode cX5_append 1 = .ok (.getfield 17, 3) := by decide +kernel
theorem dX5_append_4 : decode cX5_append 4 = .ok (.iconst 4, 1) := by decide +kernel
theorem dX5_append_5 : decode cX5_append 5 = .ok (.if_icmp .lt 5, 3) := by decide +kernel
theorem dX5_append_8 : decode cX5_append 8 = .ok (.aconst_null, 1) := by decide +kernel
theorem dX5_append_9 : decode cX5_append 9 = .ok (.areturn, 1) := by decide +kernel
theorem dX5_append_10 : decode cX5_append 10 = .ok (.new 9, 3) := by decide +kernel
theorem dX5_append_13 : decode cX5_append 13 = .ok (.dup, 1) := by decide +kernel
theorem dX5_append_14 : decode cX5_append 14 = .ok (.aload_n 0, 1) := by decide +kernel
theorem dX5_append_15 : decode cX5_append 15 = .ok (.getfield 17, 3) := by decide +kernel
theorem dX5_append_18 : decode cX5_append 18 = .ok (.iload_n 1, 1) := by decide +kernel
theorem dX5_append_19 : decode cX5_append 19 = .ok (.aload_n 0, 1) := by decide +kernel
theorem dX5_append_20 : decode cX5_append 20 = .ok (.getfield 21, 3) := by decide +kernel
theorem dX5_append_23 : decode cX5_append 23 = .ok (.invokespecial 27, 3) := by decide +kernel
theorem dX5_append_26 : decode cX5_append 26 = .ok (.astore_n 2, 1) := by decide +kernel
theorem dX5_append_27 : decode cX5_append 27 = .ok (.aload_n 0, 1) := by decide +kernel
theorem dX5_append_28 : decode cX5_append 28 = .ok (.getfield 11, 3) := by decide +kernel
theorem dX5_append_31 : decode cX5_append 31 = .ok (.aload_n 0, 1) := by decide +kernel
theorem dX5_append_32 : decode cX5_append 32 = .ok (.getfield 17, 3) := by decide +kernel
theorem dX5_append_35 : decode cX5_append 35 = .ok (.aload_n 2, 1) := by decide +kernel
theorem dX5_append_36 : decode cX5_append 36 = .ok (.aastore, 1) := by decide +kernel
theorem dX5_append_37 : decode cX5_append 37 = .ok (.aload_n 0, 1) := by decide +kernel
theorem dX5_append_38 : decode cX5_append 38 = .ok (.dup, 1) := by decide +kernel
theorem dX5_append_39 : decode cX5_append 39 = .ok (.getfield 17, 3) := by decide +kernel
theorem dX5_append_42 : decode cX5_append 42 = .ok (.iconst 1, 1) := by decide +kernel
theorem dX5_append_43 : decode cX5_append 43 = .ok (.iadd, 1) := by decide +kernel
theorem dX5_append_44 : decode cX5_append 44 = .ok (.putfield 17, 3) := by decide +kernel
theorem dX5_append_47 : decode cX5_append 47 = .ok (.aload_n 2, 1) := by decide +kernel
theorem dX5_append_48 : decode cX5_append 48 = .ok (.areturn, 1) := by decide +kernel
theorem dX5_numbered_0 : decode cX5_numbered 0 = .ok (.iload_n 1, 1) := by decide +kernel
theorem dX5_numbered_1 : decode cX5_numbered 1 = .ok (.iconst 0, 1) := by decide +kernel
theorem dX5_numbered_2 : decode cX5_numbered 2 = .ok (.aload_n 0, 1) := by decide +kernel
theorem dX5_numbered_3 : decode cX5_numbered 3 = .ok (.getfield 17, 3) := by decide +kernel
theorem dX5_numbered_6 : decode cX5_numbered 6 = .ok (.iconst 1, 1) := by decide +kernel
theorem dX5_numbered_7 : decode cX5_numbered 7 = .ok (.isub, 1) := by decide +kernel
theorem dX5_numbered_8 : decode cX5_numbered 8 = .ok (.invokestatic 30, 3) := by decide +kernel
theorem dX5_numbered_11 : decode cX5_numbered 11 = .ok (.ifCond .eq 12, 3) := by decide +kernel
theorem dX5_numbered_14 : decode cX5_numbered 14 = .ok (.aload_n 0, 1) := by decide +kernel
theorem dX5_numbered_15 : decode cX5_numbered 15 = .ok (.getfield 11, 3) := by decide +kernel
theorem dX5_numbered_18 : decode cX5_numbered 18 = .ok (.iload_n 1, 1) := by decide +kernel
theorem dX5_numbered_19 : decode cX5_numbered 19 = .ok (.aaload, 1) := by decide +kernel
theorem dX5_numbered_20 : decode cX5_numbered 20 = .ok (.goto 4, 3) := by decide +kernel
theorem dX5_numbered_23 : decode cX5_numbered 23 = .ok (.aconst_null, 1) := by decide +kernel
theorem dX5_numbered_24 : decode cX5_numbered 24 = .ok (.areturn, 1) := by decide +kernel
theorem dX5_isKey_0 : decode cX5_isKey 0 = .ok (.iload_n 1, 1) := by decide +kernel
theorem dX5_isKey_1 : decode cX5_isKey 1 = .ok (.iconst 0, 1) := by decide +kernel
theorem dX5_isKey_2 : decode cX5_isKey 2 = .ok (.aload_n 0, 1) := by decide +kernel
theorem dX5_isKey_3 : decode cX5_isKey 3 = .ok (.getfield 24, 3) := by decide +kernel
theorem dX5_isKey_6 : decode cX5_isKey 6 = .ok (.iconst 1, 1) := by decide +kernel
theorem dX5_isKey_7 : decode cX5_isKey 7 = .ok (.isub, 1) := by decide +kernel
theorem dX5_isKey_8 : decode cX5_isKey 8 = .ok (.invokestatic 30, 3) := by decide +kernel
theorem dX5_isKey_11 : decode cX5_isKey 11 = .ok (.ireturn, 1) := by decide +kernel
theorem dX5_twin_0 : decode cX5_twin 0 = .ok (.new 12, 3) := by decide +kernel
theorem dX5_twin_3 : decode cX5_twin 3 = .ok (.dup, 1) := by decide +kernel
theorem dX5_twin_4 : decode cX5_twin 4 = .ok (.aload_n 0, 1) := by decide +kernel
theorem dX5_twin_5 : decode cX5_twin 5 = .ok (.getfield 21, 3) := by decide +kernel
theorem dX5_twin_8 : decode cX5_twin 8 = .ok (.invokespecial 34, 3) := by decide +kernel
theorem dX5_twin_11 : decode cX5_twin 11 = .ok (.astore_n 1, 1) := by decide +kernel
theorem dX5_twin_12 : decode cX5_twin 12 = .ok (.iconst 0, 1) := by decide +kernel
theorem dX5_twin_13 : decode cX5_twin 13 = .ok (.istore_n 2, 1) := by decide +kernel
theorem dX5_twin_14 : decode cX5_twin 14 = .ok (.iload_n 2, 1) := by decide +kernel
theorem dX5_twin_15 : decode cX5_twin 15 = .ok (.aload_n 0, 1) := by decide +kernel
theorem dX5_twin_16 : decode cX5_twin 16 = .ok (.getfield 17, 3) := by decide +kernel
theorem dX5_twin_19 : decode cX5_twin 19 = .ok (.if_icmp .ge 40, 3) := by decide +kernel
theorem dX5_twin_22 : decode cX5_twin 22 = .ok (.aload_n 1, 1) := by decide +kernel
theorem dX5_twin_23 : decode cX5_twin 23 = .ok (.aload_n 0, 1) := by decide +kernel
theorem dX5_twin_24 : decode cX5_twin 24 = .ok (.getfield 11, 3) := by decide +kernel
theorem dX5_twin_27 : decode cX5_twin 27 = .ok (.iload_n 2, 1) := by decide +kernel
theorem dX5_twin_28 : decode cX5_twin 28 = .ok (.aaload, 1) := by decide +kernel
theorem dX5_twin_29 : decode cX5_twin 29 = .ok (.getfield 37, 3) := by decide +kernel
theorem dX5_twin_32 : decode cX5_twin 32 = .ok (.invokevirtual 40, 3) := by decide +kernel
theorem dX5_twin_35 : decode cX5_twin 35 = .ok (.astore_n 3, 1) := by decide +kernel
theorem dX5_twin_36 : decode cX5_twin 36 = .ok (.aload_n 3, 1) := by decide +kernel
theorem dX5_twin_37 : decode cX5_twin 37 = .ok (.ifnull 16, 3) := by decide +kernel
theorem dX5_twin_40 : decode cX5_twin 40 = .ok (.aload_n 3, 1) := by decide +kernel
theorem dX5_twin_41 : decode cX5_twin 41 = .ok (.aload_n 0, 1) := by decide +kernel
theorem dX5_twin_42 : decode cX5_twin 42 = .ok (.getfield 11, 3) := by decide +kernel
theorem dX5_twin_45 : decode cX5_twin 45 = .ok (.iload_n 2, 1) := by decide +kernel
theorem dX5_twin_46 : decode cX5_twin 46 = .ok (.aaload, 1) := by decide +kernel
theorem dX5_twin_47 : decode cX5_twin 47 = .ok (.getfield 44, 3) := by decide +kernel
theorem dX5_twin_50 : decode cX5_twin 50 = .ok (.invokevirtual 48, 3) := by decide +kernel
theorem dX5_twin_53 : decode cX5_twin 53 = .ok (.iinc 2 1, 3) := by decide +kernel
theorem dX5_twin_56 : decode cX5_twin 56 = .ok (.goto (-42), 3) := by decide +kernel
theorem dX5_twin_59 : decode cX5_twin 59 = .ok (.aload_n 1, 1) := by decide +kernel
theorem dX5_twin_60 : decode cX5_twin 60 = .ok (.areturn, 1) := by decide +kernel
theorem dX5_sizeOfAll_0 : decode cX5_sizeOfAll 0 = .ok (.iconst 0, 1) := by decide +kernel
theorem dX5_sizeOfAll_1 : decode cX5_sizeOfAll 1 = .ok (.istore_n 1, 1) := by decide +kernel
theorem dX5_sizeOfAll_2 : decode cX5_sizeOfAll 2 = .ok (.iconst 0, 1) := by decide +kernel
theorem dX5_sizeOfAll_3 : decode cX5_sizeOfAll 3 = .ok (.istore_n 2, 1) := by decide +kernel
theorem dX5_sizeOfAll_4 : decode cX5_sizeOfAll 4 = .ok (.iload_n 2, 1) := by decide +kernel
theorem dX5_sizeOfAll_5 : decode cX5_sizeOfAll 5 = .ok (.aload_n 0, 1) := by decide +kernel
theorem dX5_sizeOfAll_6 : decode cX5_sizeOfAll 6 = .ok (.getfield 17, 3) := by decide +kernel
theorem dX5_sizeOfAll_9 : decode cX5_sizeOfAll 9 = .ok (.if_icmp .ge 21, 3) := by decide +kernel
theorem dX5_sizeOfAll_12 : decode cX5_sizeOfAll 12 = .ok (.iload_n 1, 1) := by decide +kernel
theorem dX5_sizeOfAll_13 : decode cX5_sizeOfAll 13 = .ok (.aload_n 0, 1) := by decide +kernel
theorem dX5_sizeOfAll_14 : decode cX5_sizeOfAll 14 = .ok (.getfield 11, 3) := by decide +kernel
theorem dX5_sizeOfAll_17 : decode cX5_sizeOfAll 17 = .ok (.iload_n 2, 1) := by decide +kernel
theorem dX5_sizeOfAll_18 : decode cX5_sizeOfAll 18 = .ok (.aaload, 1) := by decide +kernel
theorem dX5_sizeOfAll_19 : decode cX5_sizeOfAll 19 = .ok (.invokevirtual 52, 3) := by decide +kernel
theorem dX5_sizeOfAll_22 : decode cX5_sizeOfAll 22 = .ok (.iadd, 1) := by decide +kernel
theorem dX5_sizeOfAll_23 : decode cX5_sizeOfAll 23 = .ok (.istore_n 1, 1) := by decide +kernel
theorem dX5_sizeOfAll_24 : decode cX5_sizeOfAll 24 = .ok (.iinc 2 1, 3) := by decide +kernel
theorem dX5_sizeOfAll_27 : decode cX5_sizeOfAll 27 = .ok (.goto (-23), 3) := by decide +kernel
theorem dX5_sizeOfAll_30 : decode cX5_sizeOfAll 30 = .ok (.iload_n 1, 1) := by decide +kernel
theorem dX5_sizeOfAll_31 : decode cX5_sizeOfAll 31 = .ok (.ireturn, 1) := by decide +kernel
theorem dX5_nodesOfAll_0 : decode cX5_nodesOfAll 0 = .ok (.iconst 0, 1) := by decide +kernel
theorem dX5_nodesOfAll_1 : decode cX5_nodesOfAll 1 = .ok (.istore_n 1, 1) := by decide +kernel
theorem dX5_nodesOfAll_2 : decode cX5_nodesOfAll 2 = .ok (.iconst 0, 1) := by decide +kernel
theorem dX5_nodesOfAll_3 : decode cX5_nodesOfAll 3 = .ok (.istore_n 2, 1) := by decide +kernel
theorem dX5_nodesOfAll_4 : decode cX5_nodesOfAll 4 = .ok (.iload_n 2, 1) := by decide +kernel
theorem dX5_nodesOfAll_5 : decode cX5_nodesOfAll 5 = .ok (.aload_n 0, 1) := by decide +kernel
theorem dX5_nodesOfAll_6 : decode cX5_nodesOfAll 6 = .ok (.getfield 17, 3) := by decide +kernel
theorem dX5_nodesOfAll_9 : decode cX5_nodesOfAll 9 = .ok (.if_icmp .ge 21, 3) := by decide +kernel
theorem dX5_nodesOfAll_12 : decode cX5_nodesOfAll 12 = .ok (.iload_n 1, 1) := by decide +kernel
theorem dX5_nodesOfAll_13 : decode cX5_nodesOfAll 13 = .ok (.aload_n 0, 1) := by decide +kernel
theorem dX5_nodesOfAll_14 : decode cX5_nodesOfAll 14 = .ok (.getfield 11, 3) := by decide +kernel
theorem dX5_nodesOfAll_17 : decode cX5_nodesOfAll 17 = .ok (.iload_n 2, 1) := by decide +kernel
theorem dX5_nodesOfAll_18 : decode cX5_nodesOfAll 18 = .ok (.aaload, 1) := by decide +kernel
theorem dX5_nodesOfAll_19 : decode cX5_nodesOfAll 19 = .ok (.invokevirtual 56, 3) := by decide +kernel
theorem dX5_nodesOfAll_22 : decode cX5_nodesOfAll 22 = .ok (.iadd, 1) := by decide +kernel
theorem dX5_nodesOfAll_23 : decode cX5_nodesOfAll 23 = .ok (.istore_n 1, 1) := by decide +kernel
theorem dX5_nodesOfAll_24 : decode cX5_nodesOfAll 24 = .ok (.iinc 2 1, 3) := by decide +kernel
theorem dX5_nodesOfAll_27 : decode cX5_nodesOfAll 27 = .ok (.goto (-23), 3) := by decide +kernel
theorem dX5_nodesOfAll_30 : decode cX5_nodesOfAll 30 = .ok (.iload_n 1, 1) := by decide +kernel
theorem dX5_nodesOfAll_31 : decode cX5_nodesOfAll 31 = .ok (.ireturn, 1) := by decide +kernel
theorem dX5_commonFrom_0 : decode cX5_commonFrom 0 = .ok (.iload_n 1, 1) := by decide +kernel
theorem dX5_commonFrom_1 : decode cX5_commonFrom 1 = .ok (.bipush 32, 2) := by decide +kernel
theorem dX5_commonFrom_3 : decode cX5_commonFrom 3 = .ok (.idiv, 1) := by decide +kernel
theorem dX5_commonFrom_4 : decode cX5_commonFrom 4 = .ok (.istore_n 2, 1) := by decide +kernel
theorem dX5_commonFrom_5 : decode cX5_commonFrom 5 = .ok (.iload_n 2, 1) := by decide +kernel
theorem dX5_commonFrom_6 : decode cX5_commonFrom 6 = .ok (.aload_n 0, 1) := by decide +kernel
theorem dX5_commonFrom_7 : decode cX5_commonFrom 7 = .ok (.getfield 21, 3) := by decide +kernel
theorem dX5_commonFrom_10 : decode cX5_commonFrom 10 = .ok (.invokestatic 59, 3) := by decide +kernel
theorem dX5_commonFrom_13 : decode cX5_commonFrom 13 = .ok (.if_icmp .ge 68, 3) := by decide +kernel
theorem dX5_commonFrom_16 : decode cX5_commonFrom 16 = .ok (.iload_n 2, 1) := by decide +kernel
theorem dX5_commonFrom_17 : decode cX5_commonFrom 17 = .ok (.iload_n 1, 1) := by decide +kernel
theorem dX5_commonFrom_18 : decode cX5_commonFrom 18 = .ok (.aload_n 0, 1) := by decide +kernel
theorem dX5_commonFrom_19 : decode cX5_commonFrom 19 = .ok (.getfield 24, 3) := by decide +kernel
theorem dX5_commonFrom_22 : decode cX5_commonFrom 22 = .ok (.iconst 1, 1) := by decide +kernel
theorem dX5_commonFrom_23 : decode cX5_commonFrom 23 = .ok (.isub, 1) := by decide +kernel
theorem dX5_commonFrom_24 : decode cX5_commonFrom 24 = .ok (.invokestatic 63, 3) := by decide +kernel
theorem dX5_commonFrom_27 : decode cX5_commonFrom 27 = .ok (.istore_n 3, 1) := by decide +kernel
theorem dX5_commonFrom_28 : decode cX5_commonFrom 28 = .ok (.iconst 0, 1) := by decide +kernel
theorem dX5_commonFrom_29 : decode cX5_commonFrom 29 = .ok (.istore 4, 2) := by decide +kernel
theorem dX5_commonFrom_31 : decode cX5_commonFrom 31 = .ok (.iload 4, 2) := by decide +kernel
theorem dX5_commonFrom_33 : decode cX5_commonFrom 33 = .ok (.aload_n 0, 1) := by decide +kernel
theorem dX5_commonFrom_34 : decode cX5_commonFrom 34 = .ok (.getfield 17, 3) := by decide +kernel
theorem dX5_commonFrom_37 : decode cX5_commonFrom 37 = .ok (.if_icmp .ge 24, 3) := by decide +kernel
theorem dX5_commonFrom_40 : decode cX5_commonFrom 40 = .ok (.iload_n 3, 1) := by decide +kernel
theorem dX5_commonFrom_41 : decode cX5_commonFrom 41 = .ok (.aload_n 0, 1) := by decide +kernel
theorem dX5_commonFrom_42 : decode cX5_commonFrom 42 = .ok (.getfield 11, 3) := by decide +kernel
theorem dX5_commonFrom_45 : decode cX5_commonFrom 45 = .ok (.iload 4, 2) := by decide +kernel
theorem dX5_commonFrom_47 : decode cX5_commonFrom 47 = .ok (.aaload, 1) := by decide +kernel
theorem dX5_commonFrom_48 : decode cX5_commonFrom 48 = .ok (.getfield 44, 3) := by decide +kernel
theorem dX5_commonFrom_51 : decode cX5_commonFrom 51 = .ok (.iload_n 2, 1) := by decide +kernel
theorem dX5_commonFrom_52 : decode cX5_commonFrom 52 = .ok (.iaload, 1) := by decide +kernel
theorem dX5_commonFrom_53 : decode cX5_commonFrom 53 = .ok (.iand, 1) := by decide +kernel
theorem dX5_commonFrom_54 : decode cX5_commonFrom 54 = .ok (.istore_n 3, 1) := by decide +kernel
theorem dX5_commonFrom_55 : decode cX5_commonFrom 55 = .ok (.iinc 4 1, 3) := by decide +kernel
theorem dX5_commonFrom_58 : decode cX5_commonFrom 58 = .ok (.goto (-27), 3) := by decide +kernel
theorem dX5_commonFrom_61 : decode cX5_commonFrom 61 = .ok (.iload_n 3, 1) := by decide +kernel
theorem dX5_commonFrom_62 : decode cX5_commonFrom 62 = .ok (.ifCond .eq 13, 3) := by decide +kernel
theorem dX5_commonFrom_65 : decode cX5_commonFrom 65 = .ok (.iload_n 2, 1) := by decide +kernel
theorem dX5_commonFrom_66 : decode cX5_commonFrom 66 = .ok (.bipush 32, 2) := by decide +kernel
theorem dX5_commonFrom_68 : decode cX5_commonFrom 68 = .ok (.imul, 1) := by decide +kernel
theorem dX5_commonFrom_69 : decode cX5_commonFrom 69 = .ok (.iload_n 3, 1) := by decide +kernel
theorem dX5_commonFrom_70 : decode cX5_commonFrom 70 = .ok (.invokestatic 67, 3) := by decide +kernel
theorem dX5_commonFrom_73 : decode cX5_commonFrom 73 = .ok (.iadd, 1) := by decide +kernel
theorem dX5_commonFrom_74 : decode cX5_commonFrom 74 = .ok (.ireturn, 1) := by decide +kernel
theorem dX5_commonFrom_75 : decode cX5_commonFrom 75 = .ok (.iinc 2 1, 3) := by decide +kernel
theorem dX5_commonFrom_78 : decode cX5_commonFrom 78 = .ok (.goto (-73), 3) := by decide +kernel
theorem dX5_commonFrom_81 : decode cX5_commonFrom 81 = .ok (.ldc 72, 2) := by decide +kernel
theorem dX5_commonFrom_83 : decode cX5_commonFrom 83 = .ok (.ireturn, 1) := by decide +kernel
theorem dX5_fewestOver_0 : decode cX5_fewestOver 0 = .ok (.iconst 0, 1) := by decide +kernel
theorem dX5_fewestOver_1 : decode cX5_fewestOver 1 = .ok (.istore_n 3, 1) := by decide +kernel
theorem dX5_fewestOver_2 : decode cX5_fewestOver 2 = .ok (.iconst 1, 1) := by decide +kernel
theorem dX5_fewestOver_3 : decode cX5_fewestOver 3 = .ok (.istore 4, 2) := by decide +kernel
theorem dX5_fewestOver_5 : decode cX5_fewestOver 5 = .ok (.iload 4, 2) := by decide +kernel
theorem dX5_fewestOver_7 : decode cX5_fewestOver 7 = .ok (.iconst 1, 1) := by decide +kernel
theorem dX5_fewestOver_8 : decode cX5_fewestOver 8 = .ok (.aload_n 0, 1) := by decide +kernel
theorem dX5_fewestOver_9 : decode cX5_fewestOver 9 = .ok (.getfield 17, 3) := by decide +kernel
theorem dX5_fewestOver_12 : decode cX5_fewestOver 12 = .ok (.ishl, 1) := by decide +kernel
theorem dX5_fewestOver_13 : decode cX5_fewestOver 13 = .ok (.if_icmp .ge 51, 3) := by decide +kernel
theorem dX5_fewestOver_16 : decode cX5_fewestOver 16 = .ok (.iload_n 3, 1) := by decide +kernel
theorem dX5_fewestOver_17 : decode cX5_fewestOver 17 = .ok (.ifCond .eq 15, 3) := by decide +kernel
theorem dX5_fewestOver_20 : decode cX5_fewestOver 20 = .ok (.iload 4, 2) := by decide +kernel
theorem dX5_fewestOver_22 : decode cX5_fewestOver 22 = .ok (.invokestatic 73, 3) := by decide +kernel
theorem dX5_fewestOver_25 : decode cX5_fewestOver 25 = .ok (.iload_n 3, 1) := by decide +kernel
theorem dX5_fewestOver_26 : decode cX5_fewestOver 26 = .ok (.invokestatic 73, 3) := by decide +kernel
theorem dX5_fewestOver_29 : decode cX5_fewestOver 29 = .ok (.if_icmp .ge 7, 3) := by decide +kernel
theorem dX5_fewestOver_32 : decode cX5_fewestOver 32 = .ok (.iconst 1, 1) := by decide +kernel
theorem dX5_fewestOver_33 : decode cX5_fewestOver 33 = .ok (.goto 4, 3) := by decide +kernel
theorem dX5_fewestOver_36 : decode cX5_fewestOver 36 = .ok (.iconst 0, 1) := by decide +kernel
theorem dX5_fewestOver_37 : decode cX5_fewestOver 37 = .ok (.istore 5, 2) := by decide +kernel
theorem dX5_fewestOver_39 : decode cX5_fewestOver 39 = .ok (.iload 5, 2) := by decide +kernel
theorem dX5_fewestOver_41 : decode cX5_fewestOver 41 = .ok (.ifCond .eq 17, 3) := by decide +kernel
theorem dX5_fewestOver_44 : decode cX5_fewestOver 44 = .ok (.aload_n 0, 1) := by decide +kernel
theorem dX5_fewestOver_45 : decode cX5_fewestOver 45 = .ok (.iload 4, 2) := by decide +kernel
theorem dX5_fewestOver_47 : decode cX5_fewestOver 47 = .ok (.iload_n 1, 1) := by decide +kernel
theorem dX5_fewestOver_48 : decode cX5_fewestOver 48 = .ok (.iload_n 2, 1) := by decide +kernel
theorem dX5_fewestOver_49 : decode cX5_fewestOver 49 = .ok (.invokevirtual 78, 3) := by decide +kernel
theorem dX5_fewestOver_52 : decode cX5_fewestOver 52 = .ok (.ifCond .eq 6, 3) := by decide +kernel
theorem dX5_fewestOver_55 : decode cX5_fewestOver 55 = .ok (.iload 4, 2) := by decide +kernel
theorem dX5_fewestOver_57 : decode cX5_fewestOver 57 = .ok (.istore_n 3, 1) := by decide +kernel
theorem dX5_fewestOver_58 : decode cX5_fewestOver 58 = .ok (.iinc 4 1, 3) := by decide +kernel
theorem dX5_fewestOver_61 : decode cX5_fewestOver 61 = .ok (.goto (-56), 3) := by decide +kernel
theorem dX5_fewestOver_64 : decode cX5_fewestOver 64 = .ok (.iload_n 3, 1) := by decide +kernel
theorem dX5_fewestOver_65 : decode cX5_fewestOver 65 = .ok (.ireturn, 1) := by decide +kernel
theorem dX5_isCovered_0 : decode cX5_isCovered 0 = .ok (.iload_n 2, 1) := by decide +kernel
theorem dX5_isCovered_1 : decode cX5_isCovered 1 = .ok (.bipush 32, 2) := by decide +kernel
theorem dX5_isCovered_3 : decode cX5_isCovered 3 = .ok (.idiv, 1) := by decide +kernel
theorem dX5_isCovered_4 : decode cX5_isCovered 4 = .ok (.istore 4, 2) := by decide +kernel
theorem dX5_isCovered_6 : decode cX5_isCovered 6 = .ok (.iload 4, 2) := by decide +kernel
theorem dX5_isCovered_8 : decode cX5_isCovered 8 = .ok (.aload_n 0, 1) := by decide +kernel
theorem dX5_isCovered_9 : decode cX5_isCovered 9 = .ok (.getfield 21, 3) := by decide +kernel
theorem dX5_isCovered_12 : decode cX5_isCovered 12 = .ok (.invokestatic 59, 3) := by decide +kernel
theorem dX5_isCovered_15 : decode cX5_isCovered 15 = .ok (.if_icmp .ge 73, 3) := by decide +kernel
theorem dX5_isCovered_18 : decode cX5_isCovered 18 = .ok (.iload 4, 2) := by decide +kernel
theorem dX5_isCovered_20 : decode cX5_isCovered 20 = .ok (.iload_n 2, 1) := by decide +kernel
theorem dX5_isCovered_21 : decode cX5_isCovered 21 = .ok (.iload_n 3, 1) := by decide +kernel
theorem dX5_isCovered_22 : decode cX5_isCovered 22 = .ok (.invokestatic 63, 3) := by decide +kernel
theorem dX5_isCovered_25 : decode cX5_isCovered 25 = .ok (.istore 5, 2) := by decide +kernel
theorem dX5_isCovered_27 : decode cX5_isCovered 27 = .ok (.iconst 0, 1) := by decide +kernel
theorem dX5_isCovered_28 : decode cX5_isCovered 28 = .ok (.istore 6, 2) := by decide +kernel
theorem dX5_isCovered_30 : decode cX5_isCovered 30 = .ok (.iload 6, 2) := by decide +kernel
theorem dX5_isCovered_32 : decode cX5_isCovered 32 = .ok (.aload_n 0, 1) := by decide +kernel
theorem dX5_isCovered_33 : decode cX5_isCovered 33 = .ok (.getfield 17, 3) := by decide +kernel
theorem dX5_isCovered_36 : decode cX5_isCovered 36 = .ok (.if_icmp .ge 39, 3) := by decide +kernel
theorem dX5_isCovered_39 : decode cX5_isCovered 39 = .ok (.iload_n 1, 1) := by decide +kernel
theorem dX5_isCovered_40 : decode cX5_isCovered 40 = .ok (.iload 6, 2) := by decide +kernel
theorem dX5_isCovered_42 : decode cX5_isCovered 42 = .ok (.iushr, 1) := by decide +kernel
theorem dX5_isCovered_43 : decode cX5_isCovered 43 = .ok (.iconst 1, 1) := by decide +kernel
theorem dX5_isCovered_44 : decode cX5_isCovered 44 = .ok (.iand, 1) := by decide +kernel
theorem dX5_isCovered_45 : decode cX5_isCovered 45 = .ok (.iconst 1, 1) := by decide +kernel
theorem dX5_isCovered_46 : decode cX5_isCovered 46 = .ok (.if_icmp .ne 23, 3) := by decide +kernel
theorem dX5_isCovered_49 : decode cX5_isCovered 49 = .ok (.iload 5, 2) := by decide +kernel
theorem dX5_isCovered_51 : decode cX5_isCovered 51 = .ok (.aload_n 0, 1) := by decide +kernel
theorem dX5_isCovered_52 : decode cX5_isCovered 52 = .ok (.getfield 11, 3) := by decide +kernel
theorem dX5_isCovered_55 : decode cX5_isCovered 55 = .ok (.iload 6, 2) := by decide +kernel
theorem dX5_isCovered_57 : decode cX5_isCovered 57 = .ok (.aaload, 1) := by decide +kernel
theorem dX5_isCovered_58 : decode cX5_isCovered 58 = .ok (.getfield 44, 3) := by decide +kernel
theorem dX5_isCovered_61 : decode cX5_isCovered 61 = .ok (.iload 4, 2) := by decide +kernel
theorem dX5_isCovered_63 : decode cX5_isCovered 63 = .ok (.iaload, 1) := by decide +kernel
theorem dX5_isCovered_64 : decode cX5_isCovered 64 = .ok (.iconst (-1), 1) := by decide +kernel
theorem dX5_isCovered_65 : decode cX5_isCovered 65 = .ok (.ixor, 1) := by decide +kernel
theorem dX5_isCovered_66 : decode cX5_isCovered 66 = .ok (.iand, 1) := by decide +kernel
theorem dX5_isCovered_67 : decode cX5_isCovered 67 = .ok (.istore 5, 2) := by decide +kernel
theorem dX5_isCovered_69 : decode cX5_isCovered 69 = .ok (.iinc 6 1, 3) := by decide +kernel
theorem dX5_isCovered_72 : decode cX5_isCovered 72 = .ok (.goto (-42), 3) := by decide +kernel
theorem dX5_isCovered_75 : decode cX5_isCovered 75 = .ok (.iload 5, 2) := by decide +kernel
theorem dX5_isCovered_77 : decode cX5_isCovered 77 = .ok (.ifCond .eq 5, 3) := by decide +kernel
theorem dX5_isCovered_80 : decode cX5_isCovered 80 = .ok (.iconst 0, 1) := by decide +kernel
theorem dX5_isCovered_81 : decode cX5_isCovered 81 = .ok (.ireturn, 1) := by decide +kernel
theorem dX5_isCovered_82 : decode cX5_isCovered 82 = .ok (.iinc 4 1, 3) := by decide +kernel
theorem dX5_isCovered_85 : decode cX5_isCovered 85 = .ok (.goto (-79), 3) := by decide +kernel
theorem dX5_isCovered_88 : decode cX5_isCovered 88 = .ok (.iconst 1, 1) := by decide +kernel
theorem dX5_isCovered_89 : decode cX5_isCovered 89 = .ok (.ireturn, 1) := by decide +kernel
theorem dX5_draw_0 : decode cX5_draw 0 = .ok (.aload_n 0, 1) := by decide +kernel
theorem dX5_draw_1 : decode cX5_draw 1 = .ok (.getfield 17, 3) := by decide +kernel
theorem dX5_draw_4 : decode cX5_draw 4 = .ok (.ifCond .ne 4, 3) := by decide +kernel
theorem dX5_draw_7 : decode cX5_draw 7 = .ok (.return_, 1) := by decide +kernel
theorem dX5_draw_8 : decode cX5_draw 8 = .ok (.iload_n 2, 1) := by decide +kernel
theorem dX5_draw_9 : decode cX5_draw 9 = .ok (.i2l, 1) := by decide +kernel
theorem dX5_draw_10 : decode cX5_draw 10 = .ok (.lstore_n 3, 1) := by decide +kernel
theorem dX5_draw_11 : decode cX5_draw 11 = .ok (.iconst 0, 1) := by decide +kernel
theorem dX5_draw_12 : decode cX5_draw 12 = .ok (.istore 5, 2) := by decide +kernel
theorem dX5_draw_14 : decode cX5_draw 14 = .ok (.iload 5, 2) := by decide +kernel
theorem dX5_draw_16 : decode cX5_draw 16 = .ok (.iload_n 1, 1) := by decide +kernel
theorem dX5_draw_17 : decode cX5_draw 17 = .ok (.if_icmp .ge 57, 3) := by decide +kernel
theorem dX5_draw_20 : decode cX5_draw 20 = .ok (.lload_n 3, 1) := by decide +kernel
theorem dX5_draw_21 : decode cX5_draw 21 = .ok (.ldc2_w 81, 3) := by decide +kernel
theorem dX5_draw_24 : decode cX5_draw 24 = .ok (.lmul, 1) := by decide +kernel
theorem dX5_draw_25 : decode cX5_draw 25 = .ok (.ldc2_w 83, 3) := by decide +kernel
theorem dX5_draw_28 : decode cX5_draw 28 = .ok (.lrem, 1) := by decide +kernel
theorem dX5_draw_29 : decode cX5_draw 29 = .ok (.lstore_n 3, 1) := by decide +kernel
theorem dX5_draw_30 : decode cX5_draw 30 = .ok (.aload_n 0, 1) := by decide +kernel
theorem dX5_draw_31 : decode cX5_draw 31 = .ok (.getfield 11, 3) := by decide +kernel
theorem dX5_draw_34 : decode cX5_draw 34 = .ok (.lload_n 3, 1) := by decide +kernel
theorem dX5_draw_35 : decode cX5_draw 35 = .ok (.aload_n 0, 1) := by decide +kernel
theorem dX5_draw_36 : decode cX5_draw 36 = .ok (.getfield 17, 3) := by decide +kernel
theorem dX5_draw_39 : decode cX5_draw 39 = .ok (.i2l, 1) := by decide +kernel
theorem dX5_draw_40 : decode cX5_draw 40 = .ok (.lrem, 1) := by decide +kernel
theorem dX5_draw_41 : decode cX5_draw 41 = .ok (.l2i, 1) := by decide +kernel
theorem dX5_draw_42 : decode cX5_draw 42 = .ok (.aaload, 1) := by decide +kernel
theorem dX5_draw_43 : decode cX5_draw 43 = .ok (.astore 6, 2) := by decide +kernel
theorem dX5_draw_45 : decode cX5_draw 45 = .ok (.lload_n 3, 1) := by decide +kernel
theorem dX5_draw_46 : decode cX5_draw 46 = .ok (.ldc2_w 85, 3) := by decide +kernel
theorem dX5_draw_49 : decode cX5_draw 49 = .ok (.ldiv, 1) := by decide +kernel
theorem dX5_draw_50 : decode cX5_draw 50 = .ok (.aload_n 0, 1) := by decide +kernel
theorem dX5_draw_51 : decode cX5_draw 51 = .ok (.getfield 24, 3) := by decide +kernel
theorem dX5_draw_54 : decode cX5_draw 54 = .ok (.i2l, 1) := by decide +kernel
theorem dX5_draw_55 : decode cX5_draw 55 = .ok (.lrem, 1) := by decide +kernel
theorem dX5_draw_56 : decode cX5_draw 56 = .ok (.l2i, 1) := by decide +kernel
theorem dX5_draw_57 : decode cX5_draw 57 = .ok (.istore 7, 2) := by decide +kernel
theorem dX5_draw_59 : decode cX5_draw 59 = .ok (.aload 6, 2) := by decide +kernel
theorem dX5_draw_61 : decode cX5_draw 61 = .ok (.iload 7, 2) := by decide +kernel
theorem dX5_draw_63 : decode cX5_draw 63 = .ok (.iload 7, 2) := by decide +kernel
theorem dX5_draw_65 : decode cX5_draw 65 = .ok (.invokevirtual 87, 3) := by decide +kernel
theorem dX5_draw_68 : decode cX5_draw 68 = .ok (.iinc 5 1, 3) := by decide +kernel
theorem dX5_draw_71 : decode cX5_draw 71 = .ok (.goto (-57), 3) := by decide +kernel
theorem dX5_draw_74 : decode cX5_draw 74 = .ok (.return_, 1) := by decide +kernel
theorem dX6_init_0 : decode cX6_init 0 = .ok (.aload_n 0, 1) := by decide +kernel
theorem dX6_init_1 : decode cX6_init 1 = .ok (.invokespecial 3, 3) := by decide +kernel
theorem dX6_init_4 : decode cX6_init 4 = .ok (.aload_n 0, 1) := by decide +kernel
theorem dX6_init_5 : decode cX6_init 5 = .ok (.bipush 110, 2) := by decide +kernel
theorem dX6_init_7 : decode cX6_init 7 = .ok (.newarray .int, 2) := by decide +kernel
theorem dX6_init_9 : decode cX6_init 9 = .ok (.putfield 9, 3) := by decide +kernel
theorem dX6_init_12 : decode cX6_init 12 = .ok (.aload_n 0, 1) := by decide +kernel
theorem dX6_init_13 : decode cX6_init 13 = .ok (.iconst 0, 1) := by decide +kernel
theorem dX6_init_14 : decode cX6_init 14 = .ok (.putfield 15, 3) := by decide +kernel
theorem dX6_init_17 : decode cX6_init 17 = .ok (.aload_n 0, 1) := by decide +kernel
theorem dX6_init_18 : decode cX6_init 18 = .ok (.iconst 0, 1) := by decide +kernel
theorem dX6_init_19 : decode cX6_init 19 = .ok (.putfield 19, 3) := by decide +kernel
theorem dX6_init_22 : decode cX6_init 22 = .ok (.aload_n 0, 1) := by decide +kernel
theorem dX6_init_23 : decode cX6_init 23 = .ok (.iconst 0, 1) := by decide +kernel
theorem dX6_init_24 : decode cX6_init 24 = .ok (.putfield 22, 3) := by decide +kernel
theorem dX6_init_27 : decode cX6_init 27 = .ok (.aload_n 0, 1) := by decide +kernel
theorem dX6_init_28 : decode cX6_init 28 = .ok (.sipush 257, 3) := by decide +kernel
theorem dX6_init_31 : decode cX6_init 31 = .ok (.putfield 25, 3) := by decide +kernel
theorem dX6_init_34 : decode cX6_init 34 = .ok (.aload_n 0, 1) := by decide +kernel
theorem dX6_init_35 : decode cX6_init 35 = .ok (.iconst 0, 1) := by decide +kernel
theorem dX6_init_36 : decode cX6_init 36 = .ok (.putfield 28, 3) := by decide +kernel
theorem dX6_init_39 : decode cX6_init 39 = .ok (.aload_n 0, 1) := by decide +kernel
theorem dX6_init_40 : decode cX6_init 40 = .ok (.iconst 0, 1) := by decide +kernel
theorem dX6_init_41 : decode cX6_init 41 = .ok (.putfield 31, 3) := by decide +kernel
theorem dX6_init_44 : decode cX6_init 44 = .ok (.return_, 1) := by decide +kernel
theorem dX6_append_0 : decode cX6_append 0 = .ok (.aload_n 0, 1) := by decide +kernel
theorem dX6_append_1 : decode cX6_append 1 = .ok (.getfield 9, 3) := by decide +kernel
theorem dX6_append_4 : decode cX6_append 4 = .ok (.aload_n 0, 1) := by decide +kernel
theorem dX6_append_5 : decode cX6_append 5 = .ok (.getfield 15, 3) := by decide +kernel
theorem dX6_append_8 : decode cX6_append 8 = .ok (.iload_n 1, 1) := by decide +kernel
theorem dX6_append_9 : decode cX6_append 9 = .ok (.iastore, 1) := by decide +kernel
theorem dX6_append_10 : decode cX6_append 10 = .ok (.aload_n 0, 1) := by decide +kernel
theorem dX6_append_11 : decode cX6_append 11 = .ok (.dup, 1) := by decide +kernel
theorem dX6_append_12 : decode cX6_append 12 = .ok (.getfield 15, 3) := by decide +kernel
theorem dX6_append_15 : decode cX6_append 15 = .ok (.iconst 1, 1) := by decide +kernel
theorem dX6_append_16 : decode cX6_append 16 = .ok (.iadd, 1) := by decide +kernel
theorem dX6_append_17 : decode cX6_append 17 = .ok (.putfield 15, 3) := by decide +kernel
theorem dX6_append_20 : decode cX6_append 20 = .ok (.aload_n 0, 1) := by decide +kernel
theorem dX6_append_21 : decode cX6_append 21 = .ok (.getfield 15, 3) := by decide +kernel
theorem dX6_append_24 : decode cX6_append 24 = .ok (.ireturn, 1) := by decide +kernel
theorem dX6_readShelf_0 : decode cX6_readShelf 0 = .ok (.aload_n 0, 1) := by decide +kernel
theorem dX6_readShelf_1 : decode cX6_readShelf 1 = .ok (.iconst 0, 1) := by decide +kernel
theorem dX6_readShelf_2 : decode cX6_readShelf 2 = .ok (.putfield 31, 3) := by decide +kernel
theorem dX6_readShelf_5 : decode cX6_readShelf 5 = .ok (.aload_n 0, 1) := by decide +kernel
theorem dX6_readShelf_6 : decode cX6_readShelf 6 = .ok (.iconst 0, 1) := by decide +kernel
theorem dX6_readShelf_7 : decode cX6_readShelf 7 = .ok (.putfield 22, 3) := by decide +kernel
theorem dX6_readShelf_10 : decode cX6_readShelf 10 = .ok (.aload_n 0, 1) := by decide +kernel
theorem dX6_readShelf_11 : decode cX6_readShelf 11 = .ok (.invokevirtual 34, 3) := by decide +kernel
theorem dX6_readShelf_14 : decode cX6_readShelf 14 = .ok (.aload_n 0, 1) := by decide +kernel
theorem dX6_readShelf_15 : decode cX6_readShelf 15 = .ok (.bipush 117, 2) := by decide +kernel
theorem dX6_readShelf_17 : decode cX6_readShelf 17 = .ok (.invokevirtual 37, 3) := by decide +kernel
theorem dX6_readShelf_20 : decode cX6_readShelf 20 = .ok (.aload_n 0, 1) := by decide +kernel
theorem dX6_readShelf_21 : decode cX6_readShelf 21 = .ok (.iconst 2, 1) := by decide +kernel
theorem dX6_readShelf_22 : decode cX6_readShelf 22 = .ok (.bipush 10, 2) := by decide +kernel
theorem dX6_readShelf_24 : decode cX6_readShelf 24 = .ok (.invokevirtual 41, 3) := by decide +kernel
theorem dX6_readShelf_27 : decode cX6_readShelf 27 = .ok (.istore_n 1, 1) := by decide +kernel
theorem dX6_readShelf_28 : decode cX6_readShelf 28 = .ok (.aload_n 0, 1) := by decide +kernel
theorem dX6_readShelf_29 : decode cX6_readShelf 29 = .ok (.bipush 59, 2) := by decide +kernel
theorem dX6_readShelf_31 : decode cX6_readShelf 31 = .ok (.invokevirtual 37, 3) := by decide +kernel
theorem dX6_readShelf_34 : decode cX6_readShelf 34 = .ok (.aload_n 0, 1) := by decide +kernel
theorem dX6_readShelf_35 : decode cX6_readShelf 35 = .ok (.getfield 31, 3) := by decide +kernel
theorem dX6_readShelf_38 : decode cX6_readShelf 38 = .ok (.ifCond .eq 5, 3) := by decide +kernel
theorem dX6_readShelf_41 : decode cX6_readShelf 41 = .ok (.aconst_null, 1) := by decide +kernel
theorem dX6_readShelf_42 : decode cX6_readShelf 42 = .ok (.areturn, 1) := by decide +kernel
theorem dX6_readShelf_43 : decode cX6_readShelf 43 = .ok (.new 45, 3) := by decide +kernel
theorem dX6_readShelf_46 : decode cX6_readShelf 46 = .ok (.dup, 1) := by decide +kernel
theorem dX6_readShelf_47 : decode cX6_readShelf 47 = .ok (.iload_n 1, 1) := by decide +kernel
theorem dX6_readShelf_48 : decode cX6_readShelf 48 = .ok (.invokespecial 47, 3) := by decide +kernel
theorem dX6_readShelf_51 : decode cX6_readShelf 51 = .ok (.astore_n 2, 1) := by decide +kernel
theorem dX6_readShelf_52 : decode cX6_readShelf 52 = .ok (.aload_n 0, 1) := by decide +kernel
theorem dX6_readShelf_53 : decode cX6_readShelf 53 = .ok (.aload_n 2, 1) := by decide +kernel
theorem dX6_readShelf_54 : decode cX6_readShelf 54 = .ok (.invokevirtual 49, 3) := by decide +kernel
theorem dX6_readShelf_57 : decode cX6_readShelf 57 = .ok (.iconst 0, 1) := by decide +kernel
theorem dX6_readShelf_58 : decode cX6_readShelf 58 = .ok (.istore_n 3, 1) := by decide +kernel
theorem dX6_readShelf_59 : decode cX6_readShelf 59 = .ok (.iload_n 3, 1) := by decide +kernel
theorem dX6_readShelf_60 : decode cX6_readShelf 60 = .ok (.bipush 110, 2) := by decide +kernel
theorem dX6_readShelf_62 : decode cX6_readShelf 62 = .ok (.if_icmp .ge 31, 3) := by decide +kernel
theorem dX6_readShelf_65 : decode cX6_readShelf 65 = .ok (.aload_n 0, 1) := by decide +kernel
theorem dX6_readShelf_66 : decode cX6_readShelf 66 = .ok (.getfield 31, 3) := by decide +kernel
theorem dX6_readShelf_69 : decode cX6_readShelf 69 = .ok (.ifCond .ne 24, 3) := by decide +kernel
theorem dX6_readShelf_72 : decode cX6_readShelf 72 = .ok (.aload_n 0, 1) := by decide +kernel
theorem dX6_readShelf_73 : decode cX6_readShelf 73 = .ok (.getfield 25, 3) := by decide +kernel
theorem dX6_readShelf_76 : decode cX6_readShelf 76 = .ok (.sipush 257, 3) := by decide +kernel
theorem dX6_readShelf_79 : decode cX6_readShelf 79 = .ok (.if_icmp .eq 14, 3) := by decide +kernel
theorem dX6_readShelf_82 : decode cX6_readShelf 82 = .ok (.aload_n 0, 1) := by decide +kernel
theorem dX6_readShelf_83 : decode cX6_readShelf 83 = .ok (.aload_n 2, 1) := by decide +kernel
theorem dX6_readShelf_84 : decode cX6_readShelf 84 = .ok (.invokevirtual 49, 3) := by decide +kernel
theorem dX6_readShelf_87 : decode cX6_readShelf 87 = .ok (.iinc 3 1, 3) := by decide +kernel
theorem dX6_readShelf_90 : decode cX6_readShelf 90 = .ok (.goto (-31), 3) := by decide +kernel
theorem dX6_readShelf_93 : decode cX6_readShelf 93 = .ok (.aload_n 0, 1) := by decide +kernel
theorem dX6_readShelf_94 : decode cX6_readShelf 94 = .ok (.getfield 31, 3) := by decide +kernel
theorem dX6_readShelf_97 : decode cX6_readShelf 97 = .ok (.ifCond .ne 7, 3) := by decide +kernel
theorem dX6_readShelf_100 : decode cX6_readShelf 100 = .ok (.aload_n 2, 1) := by decide +kernel
theorem dX6_readShelf_101 : decode cX6_readShelf 101 = .ok (.goto 4, 3) := by decide +kernel
theorem dX6_readShelf_104 : decode cX6_readShelf 104 = .ok (.aconst_null, 1) := by decide +kernel
theorem dX6_readShelf_105 : decode cX6_readShelf 105 = .ok (.areturn, 1) := by decide +kernel
theorem dX6_readSet_0 : decode cX6_readSet 0 = .ok (.aload_n 0, 1) := by decide +kernel
theorem dX6_readSet_1 : decode cX6_readSet 1 = .ok (.getfield 25, 3) := by decide +kernel
theorem dX6_readSet_4 : decode cX6_readSet 4 = .ok (.invokestatic 53, 3) := by decide +kernel
theorem dX6_readSet_7 : decode cX6_readSet 7 = .ok (.istore_n 2, 1) := by decide +kernel
theorem dX6_readSet_8 : decode cX6_readSet 8 = .ok (.iload_n 2, 1) := by decide +kernel
theorem dX6_readSet_9 : decode cX6_readSet 9 = .ok (.ifCond .ne 9, 3) := by decide +kernel
theorem dX6_readSet_12 : decode cX6_readSet 12 = .ok (.aload_n 0, 1) := by decide +kernel
theorem dX6_readSet_13 : decode cX6_readSet 13 = .ok (.iconst 1, 1) := by decide +kernel
theorem dX6_readSet_14 : decode cX6_readSet 14 = .ok (.invokevirtual 57, 3) := by decide +kernel
theorem dX6_readSet_17 : decode cX6_readSet 17 = .ok (.return_, 1) := by decide +kernel
theorem dX6_readSet_18 : decode cX6_readSet 18 = .ok (.aload_n 1, 1) := by decide +kernel
theorem dX6_readSet_19 : decode cX6_readSet 19 = .ok (.iload_n 2, 1) := by decide +kernel
theorem dX6_readSet_20 : decode cX6_readSet 20 = .ok (.invokevirtual 60, 3) := by decide +kernel
theorem dX6_readSet_23 : decode cX6_readSet 23 = .ok (.astore_n 3, 1) := by decide +kernel
theorem dX6_readSet_24 : decode cX6_readSet 24 = .ok (.aload_n 3, 1) := by decide +kernel
theorem dX6_readSet_25 : decode cX6_readSet 25 = .ok (.ifnonnull 9, 3) := by decide +kernel
theorem dX6_readSet_28 : decode cX6_readSet 28 = .ok (.aload_n 0, 1) := by decide +kernel
theorem dX6_readSet_29 : decode cX6_readSet 29 = .ok (.iconst 3, 1) := by decide +kernel
theorem dX6_readSet_30 : decode cX6_readSet 30 = .ok (.invokevirtual 57, 3) := by decide +kernel
theorem dX6_readSet_33 : decode cX6_readSet 33 = .ok (.return_, 1) := by decide +kernel
theorem dX6_readSet_34 : decode cX6_readSet 34 = .ok (.iconst 1, 1) := by decide +kernel
theorem dX6_readSet_35 : decode cX6_readSet 35 = .ok (.istore 4, 2) := by decide +kernel
theorem dX6_readSet_37 : decode cX6_readSet 37 = .ok (.iconst 0, 1) := by decide +kernel
theorem dX6_readSet_38 : decode cX6_readSet 38 = .ok (.istore 5, 2) := by decide +kernel
theorem dX6_readSet_40 : decode cX6_readSet 40 = .ok (.iload 5, 2) := by decide +kernel
theorem dX6_readSet_42 : decode cX6_readSet 42 = .ok (.bipush 110, 2) := by decide +kernel
theorem dX6_readSet_44 : decode cX6_readSet 44 = .ok (.if_icmp .ge 72, 3) := by decide +kernel
theorem dX6_readSet_47 : decode cX6_readSet 47 = .ok (.iload 4, 2) := by decide +kernel
theorem dX6_readSet_49 : decode cX6_readSet 49 = .ok (.ifCond .eq 67, 3) := by decide +kernel
theorem dX6_readSet_52 : decode cX6_readSet 52 = .ok (.aload_n 0, 1) := by decide +kernel
theorem dX6_readSet_53 : decode cX6_readSet 53 = .ok (.invokevirtual 34, 3) := by decide +kernel
theorem dX6_readSet_56 : decode cX6_readSet 56 = .ok (.aload_n 0, 1) := by decide +kernel
theorem dX6_readSet_57 : decode cX6_readSet 57 = .ok (.iconst 0, 1) := by decide +kernel
theorem dX6_readSet_58 : decode cX6_readSet 58 = .ok (.aload_n 3, 1) := by decide +kernel
theorem dX6_readSet_59 : decode cX6_readSet 59 = .ok (.getfield 64, 3) := by decide +kernel
theorem dX6_readSet_62 : decode cX6_readSet 62 = .ok (.iconst 1, 1) := by decide +kernel
theorem dX6_readSet_63 : decode cX6_readSet 63 = .ok (.isub, 1) := by decide +kernel
theorem dX6_readSet_64 : decode cX6_readSet 64 = .ok (.bipush 99, 2) := by decide +kernel
theorem dX6_readSet_66 : decode cX6_readSet 66 = .ok (.invokestatic 69, 3) := by decide +kernel
theorem dX6_readSet_69 : decode cX6_readSet 69 = .ok (.invokevirtual 41, 3) := by decide +kernel
theorem dX6_readSet_72 : decode cX6_readSet 72 = .ok (.istore 6, 2) := by decide +kernel
theorem dX6_readSet_74 : decode cX6_readSet 74 = .ok (.aload_n 0, 1) := by decide +kernel
theorem dX6_readSet_75 : decode cX6_readSet 75 = .ok (.getfield 31, 3) := by decide +kernel
theorem dX6_readSet_78 : decode cX6_readSet 78 = .ok (.ifCond .ne 9, 3) := by decide +kernel
theorem dX6_readSet_81 : decode cX6_readSet 81 = .ok (.aload_n 3, 1) := by decide +kernel
theorem dX6_readSet_82 : decode cX6_readSet 82 = .ok (.iload 6, 2) := by decide +kernel
theorem dX6_readSet_84 : decode cX6_readSet 84 = .ok (.invokevirtual 74, 3) := by decide +kernel
theorem dX6_readSet_87 : decode cX6_readSet 87 = .ok (.aload_n 0, 1) := by decide +kernel
theorem dX6_readSet_88 : decode cX6_readSet 88 = .ok (.getfield 31, 3) := by decide +kernel
theorem dX6_readSet_91 : decode cX6_readSet 91 = .ok (.ifCond .ne 16, 3) := by decide +kernel
theorem dX6_readSet_94 : decode cX6_readSet 94 = .ok (.aload_n 0, 1) := by decide +kernel
theorem dX6_readSet_95 : decode cX6_readSet 95 = .ok (.getfield 25, 3) := by decide +kernel
theorem dX6_readSet_98 : decode cX6_readSet 98 = .ok (.bipush 44, 2) := by decide +kernel
theorem dX6_readSet_100 : decode cX6_readSet 100 = .ok (.if_icmp .ne 7, 3) := by decide +kernel
theorem dX6_readSet_103 : decode cX6_readSet 103 = .ok (.iconst 1, 1) := by decide +kernel
theorem dX6_readSet_104 : decode cX6_readSet 104 = .ok (.goto 4, 3) := by decide +kernel
theorem dX6_readSet_107 : decode cX6_readSet 107 = .ok (.iconst 0, 1) := by decide +kernel
theorem dX6_readSet_108 : decode cX6_readSet 108 = .ok (.istore 4, 2) := by decide +kernel
theorem dX6_readSet_110 : decode cX6_readSet 110 = .ok (.iinc 5 1, 3) := by decide +kernel
theorem dX6_readSet_113 : decode cX6_readSet 113 = .ok (.goto (-73), 3) := by decide +kernel
theorem dX6_readSet_116 : decode cX6_readSet 116 = .ok (.aload_n 0, 1) := by decide +kernel
theorem dX6_readSet_117 : decode cX6_readSet 117 = .ok (.bipush 59, 2) := by decide +kernel
theorem dX6_readSet_119 : decode cX6_readSet 119 = .ok (.invokevirtual 37, 3) := by decide +kernel
theorem dX6_readSet_122 : decode cX6_readSet 122 = .ok (.return_, 1) := by decide +kernel
theorem dX6_fail_0 : decode cX6_fail 0 = .ok (.aload_n 0, 1) := by decide +kernel
theorem dX6_fail_1 : decode cX6_fail 1 = .ok (.getfield 31, 3) := by decide +kernel
theorem dX6_fail_4 : decode cX6_fail 4 = .ok (.ifCond .ne 8, 3) := by decide +kernel
theorem dX6_fail_7 : decode cX6_fail 7 = .ok (.aload_n 0, 1) := by decide +kernel
theorem dX6_fail_8 : decode cX6_fail 8 = .ok (.iload_n 1, 1) := by decide +kernel
theorem dX6_fail_9 : decode cX6_fail 9 = .ok (.putfield 31, 3) := by decide +kernel
theorem dX6_fail_12 : decode cX6_fail 12 = .ok (.return_, 1) := by decide +kernel
theorem dX6_expect_0 : decode cX6_expect 0 = .ok (.aload_n 0, 1) := by decide +kernel
theorem dX6_expect_1 : decode cX6_expect 1 = .ok (.getfield 25, 3) := by decide +kernel
theorem dX6_expect_4 : decode cX6_expect 4 = .ok (.iload_n 1, 1) := by decide +kernel
theorem dX6_expect_5 : decode cX6_expect 5 = .ok (.if_icmp .eq 8, 3) := by decide +kernel
theorem dX6_expect_8 : decode cX6_expect 8 = .ok (.aload_n 0, 1) := by decide +kernel
theorem dX6_expect_9 : decode cX6_expect 9 = .ok (.iconst 1, 1) := by decide +kernel
theorem dX6_expect_10 : decode cX6_expect 10 = .ok (.invokevirtual 57, 3) := by decide +kernel
theorem dX6_expect_13 : decode cX6_expect 13 = .ok (.aload_n 0, 1) := by decide +kernel
theorem dX6_expect_14 : decode cX6_expect 14 = .ok (.invokevirtual 34, 3) := by decide +kernel
theorem dX6_expect_17 : decode cX6_expect 17 = .ok (.return_, 1) := by decide +kernel
theorem dX6_readNumber_0 : decode cX6_readNumber 0 = .ok (.aload_n 0, 1) := by decide +kernel
theorem dX6_readNumber_1 : decode cX6_readNumber 1 = .ok (.getfield 25, 3) := by decide +kernel
theorem dX6_readNumber_4 : decode cX6_readNumber 4 = .ok (.sipush 256, 3) := by decide +kernel
theorem dX6_readNumber_7 : decode cX6_readNumber 7 = .ok (.if_icmp .eq 11, 3) := by decide +kernel
theorem dX6_readNumber_10 : decode cX6_readNumber 10 = .ok (.aload_n 0, 1) := by decide +kernel
theorem dX6_readNumber_11 : decode cX6_readNumber 11 = .ok (.iconst 1, 1) := by decide +kernel
theorem dX6_readNumber_12 : decode cX6_readNumber 12 = .ok (.invokevirtual 57, 3) := by decide +kernel
theorem dX6_readNumber_15 : decode cX6_readNumber 15 = .ok (.goto 20, 3) := by decide +kernel
theorem dX6_readNumber_18 : decode cX6_readNumber 18 = .ok (.aload_n 0, 1) := by decide +kernel
theorem dX6_readNumber_19 : decode cX6_readNumber 19 = .ok (.getfield 28, 3) := by decide +kernel
theorem dX6_readNumber_22 : decode cX6_readNumber 22 = .ok (.iload_n 1, 1) := by decide +kernel
theorem dX6_readNumber_23 : decode cX6_readNumber 23 = .ok (.iload_n 2, 1) := by decide +kernel
theorem dX6_readNumber_24 : decode cX6_readNumber 24 = .ok (.invokestatic 77, 3) := by decide +kernel
theorem dX6_readNumber_27 : decode cX6_readNumber 27 = .ok (.ifCond .ne 8, 3) := by decide +kernel
theorem dX6_readNumber_30 : decode cX6_readNumber 30 = .ok (.aload_n 0, 1) := by decide +kernel
theorem dX6_readNumber_31 : decode cX6_readNumber 31 = .ok (.iconst 2, 1) := by decide +kernel
theorem dX6_readNumber_32 : decode cX6_readNumber 32 = .ok (.invokevirtual 57, 3) := by decide +kernel
theorem dX6_readNumber_35 : decode cX6_readNumber 35 = .ok (.aload_n 0, 1) := by decide +kernel
theorem dX6_readNumber_36 : decode cX6_readNumber 36 = .ok (.getfield 28, 3) := by decide +kernel
theorem dX6_readNumber_39 : decode cX6_readNumber 39 = .ok (.istore_n 3, 1) := by decide +kernel
theorem dX6_readNumber_40 : decode cX6_readNumber 40 = .ok (.aload_n 0, 1) := by decide +kernel
theorem dX6_readNumber_41 : decode cX6_readNumber 41 = .ok (.invokevirtual 34, 3) := by decide +kernel
theorem dX6_readNumber_44 : decode cX6_readNumber 44 = .ok (.iload_n 3, 1) := by decide +kernel
theorem dX6_readNumber_45 : decode cX6_readNumber 45 = .ok (.ireturn, 1) := by decide +kernel
theorem dX6_advance_0 : decode cX6_advance 0 = .ok (.aload_n 0, 1) := by decide +kernel
theorem dX6_advance_1 : decode cX6_advance 1 = .ok (.getfield 31, 3) := by decide +kernel
theorem dX6_advance_4 : decode cX6_advance 4 = .ok (.ifCond .eq 4, 3) := by decide +kernel
theorem dX6_advance_7 : decode cX6_advance 7 = .ok (.return_, 1) := by decide +kernel
theorem dX6_advance_8 : decode cX6_advance 8 = .ok (.aload_n 0, 1) := by decide +kernel
theorem dX6_advance_9 : decode cX6_advance 9 = .ok (.aload_n 0, 1) := by decide +kernel
theorem dX6_advance_10 : decode cX6_advance 10 = .ok (.getfield 22, 3) := by decide +kernel
theorem dX6_advance_13 : decode cX6_advance 13 = .ok (.putfield 19, 3) := by decide +kernel
theorem dX6_advance_16 : decode cX6_advance 16 = .ok (.aload_n 0, 1) := by decide +kernel
theorem dX6_advance_17 : decode cX6_advance 17 = .ok (.getfield 19, 3) := by decide +kernel
theorem dX6_advance_20 : decode cX6_advance 20 = .ok (.aload_n 0, 1) := by decide +kernel
theorem dX6_advance_21 : decode cX6_advance 21 = .ok (.getfield 15, 3) := by decide +kernel
theorem dX6_advance_24 : decode cX6_advance 24 = .ok (.if_icmp .lt 11, 3) := by decide +kernel
theorem dX6_advance_27 : decode cX6_advance 27 = .ok (.aload_n 0, 1) := by decide +kernel
theorem dX6_advance_28 : decode cX6_advance 28 = .ok (.sipush 257, 3) := by decide +kernel
theorem dX6_advance_31 : decode cX6_advance 31 = .ok (.putfield 25, 3) := by decide +kernel
theorem dX6_advance_34 : decode cX6_advance 34 = .ok (.return_, 1) := by decide +kernel
theorem dX6_advance_35 : decode cX6_advance 35 = .ok (.aload_n 0, 1) := by decide +kernel
theorem dX6_advance_36 : decode cX6_advance 36 = .ok (.getfield 9, 3) := by decide +kernel
theorem dX6_advance_39 : decode cX6_advance 39 = .ok (.aload_n 0, 1) := by decide +kernel
theorem dX6_advance_40 : decode cX6_advance 40 = .ok (.getfield 19, 3) := by decide +kernel
theorem dX6_advance_43 : decode cX6_advance 43 = .ok (.iaload, 1) := by decide +kernel
theorem dX6_advance_44 : decode cX6_advance 44 = .ok (.istore_n 1, 1) := by decide +kernel
theorem dX6_advance_45 : decode cX6_advance 45 = .ok (.iload_n 1, 1) := by decide +kernel
theorem dX6_advance_46 : decode cX6_advance 46 = .ok (.invokestatic 81, 3) := by decide +kernel
theorem dX6_advance_49 : decode cX6_advance 49 = .ok (.ifCond .eq 8, 3) := by decide +kernel
theorem dX6_advance_52 : decode cX6_advance 52 = .ok (.aload_n 0, 1) := by decide +kernel
theorem dX6_advance_53 : decode cX6_advance 53 = .ok (.invokevirtual 85, 3) := by decide +kernel
theorem dX6_advance_56 : decode cX6_advance 56 = .ok (.return_, 1) := by decide +kernel
theorem dX6_advance_57 : decode cX6_advance 57 = .ok (.aload_n 0, 1) := by decide +kernel
theorem dX6_advance_58 : decode cX6_advance 58 = .ok (.aload_n 0, 1) := by decide +kernel
theorem dX6_advance_59 : decode cX6_advance 59 = .ok (.getfield 19, 3) := by decide +kernel
theorem dX6_advance_62 : decode cX6_advance 62 = .ok (.iconst 1, 1) := by decide +kernel
theorem dX6_advance_63 : decode cX6_advance 63 = .ok (.iadd, 1) := by decide +kernel
theorem dX6_advance_64 : decode cX6_advance 64 = .ok (.putfield 22, 3) := by decide +kernel
theorem dX6_advance_67 : decode cX6_advance 67 = .ok (.aload_n 0, 1) := by decide +kernel
theorem dX6_advance_68 : decode cX6_advance 68 = .ok (.iload_n 1, 1) := by decide +kernel
theorem dX6_advance_69 : decode cX6_advance 69 = .ok (.bipush 97, 2) := by decide +kernel
theorem dX6_advance_71 : decode cX6_advance 71 = .ok (.bipush 122, 2) := by decide +kernel
theorem dX6_advance_73 : decode cX6_advance 73 = .ok (.invokestatic 77, 3) := by decide +kernel
theorem dX6_advance_76 : decode cX6_advance 76 = .ok (.ifCond .ne 15, 3) := by decide +kernel
theorem dX6_advance_79 : decode cX6_advance 79 = .ok (.iload_n 1, 1) := by decide +kernel
theorem dX6_advance_80 : decode cX6_advance 80 = .ok (.bipush 44, 2) := by decide +kernel
theorem dX6_advance_82 : decode cX6_advance 82 = .ok (.if_icmp .eq 9, 3) := by decide +kernel
theorem dX6_advance_85 : decode cX6_advance 85 = .ok (.iload_n 1, 1) := by decide +kernel
theorem dX6_advance_86 : decode cX6_advance 86 = .ok (.bipush 59, 2) := by decide +kernel
theorem dX6_advance_88 : decode cX6_advance 88 = .ok (.if_icmp .ne 7, 3) := by decide +kernel
theorem dX6_advance_91 : decode cX6_advance 91 = .ok (.iload_n 1, 1) := by decide +kernel
theorem dX6_advance_92 : decode cX6_advance 92 = .ok (.goto 6, 3) := by decide +kernel
theorem dX6_advance_95 : decode cX6_advance 95 = .ok (.sipush 258, 3) := by decide +kernel
theorem dX6_advance_98 : decode cX6_advance 98 = .ok (.putfield 25, 3) := by decide +kernel
theorem dX6_advance_101 : decode cX6_advance 101 = .ok (.return_, 1) := by decide +kernel
theorem dX6_takeFigures_0 : decode cX6_takeFigures 0 = .ok (.aload_n 0, 1) := by decide +kernel
theorem dX6_takeFigures_1 : decode cX6_takeFigures 1 = .ok (.iconst 0, 1) := by decide +kernel
theorem dX6_takeFigures_2 : decode cX6_takeFigures 2 = .ok (.putfield 28, 3) := by decide +kernel
theorem dX6_takeFigures_5 : decode cX6_takeFigures 5 = .ok (.aload_n 0, 1) := by decide +kernel
theorem dX6_takeFigures_6 : decode cX6_takeFigures 6 = .ok (.getfield 22, 3) := by decide +kernel
theorem dX6_takeFigures_9 : decode cX6_takeFigures 9 = .ok (.aload_n 0, 1) := by decide +kernel
theorem dX6_takeFigures_10 : decode cX6_takeFigures 10 = .ok (.getfield 15, 3) := by decide +kernel
theorem dX6_takeFigures_13 : decode cX6_takeFigures 13 = .ok (.if_icmp .ge 59, 3) := by decide +kernel
theorem dX6_takeFigures_16 : decode cX6_takeFigures 16 = .ok (.aload_n 0, 1) := by decide +kernel
theorem dX6_takeFigures_17 : decode cX6_takeFigures 17 = .ok (.getfield 9, 3) := by decide +kernel
theorem dX6_takeFigures_20 : decode cX6_takeFigures 20 = .ok (.aload_n 0, 1) := by decide +kernel
theorem dX6_takeFigures_21 : decode cX6_takeFigures 21 = .ok (.getfield 22, 3) := by decide +kernel
theorem dX6_takeFigures_24 : decode cX6_takeFigures 24 = .ok (.iaload, 1) := by decide +kernel
theorem dX6_takeFigures_25 : decode cX6_takeFigures 25 = .ok (.invokestatic 81, 3) := by decide +kernel
theorem dX6_takeFigures_28 : decode cX6_takeFigures 28 = .ok (.ifCond .eq 44, 3) := by decide +kernel
theorem dX6_takeFigures_31 : decode cX6_takeFigures 31 = .ok (.aload_n 0, 1) := by decide +kernel
theorem dX6_takeFigures_32 : decode cX6_takeFigures 32 = .ok (.aload_n 0, 1) := by decide +kernel
theorem dX6_takeFigures_33 : decode cX6_takeFigures 33 = .ok (.getfield 28, 3) := by decide +kernel
theorem dX6_takeFigures_36 : decode cX6_takeFigures 36 = .ok (.bipush 10, 2) := by decide +kernel
theorem dX6_takeFigures_38 : decode cX6_takeFigures 38 = .ok (.imul, 1) := by decide +kernel
theorem dX6_takeFigures_39 : decode cX6_takeFigures 39 = .ok (.sipush 1000, 3) := by decide +kernel
theorem dX6_takeFigures_42 : decode cX6_takeFigures 42 = .ok (.irem, 1) := by decide +kernel
theorem dX6_takeFigures_43 : decode cX6_takeFigures 43 = .ok (.aload_n 0, 1) := by decide +kernel
theorem dX6_takeFigures_44 : decode cX6_takeFigures 44 = .ok (.getfield 9, 3) := by decide +kernel
theorem dX6_takeFigures_47 : decode cX6_takeFigures 47 = .ok (.aload_n 0, 1) := by decide +kernel
theorem dX6_takeFigures_48 : decode cX6_takeFigures 48 = .ok (.getfield 22, 3) := by decide +kernel
theorem dX6_takeFigures_51 : decode cX6_takeFigures 51 = .ok (.iaload, 1) := by decide +kernel
theorem dX6_takeFigures_52 : decode cX6_takeFigures 52 = .ok (.iadd, 1) := by decide +kernel
theorem dX6_takeFigures_53 : decode cX6_takeFigures 53 = .ok (.bipush 48, 2) := by decide +kernel
theorem dX6_takeFigures_55 : decode cX6_takeFigures 55 = .ok (.isub, 1) := by decide +kernel
theorem dX6_takeFigures_56 : decode cX6_takeFigures 56 = .ok (.putfield 28, 3) := by decide +kernel
theorem dX6_takeFigures_59 : decode cX6_takeFigures 59 = .ok (.aload_n 0, 1) := by decide +kernel
theorem dX6_takeFigures_60 : decode cX6_takeFigures 60 = .ok (.dup, 1) := by decide +kernel
theorem dX6_takeFigures_61 : decode cX6_takeFigures 61 = .ok (.getfield 22, 3) := by decide +kernel
theorem dX6_takeFigures_64 : decode cX6_takeFigures 64 = .ok (.iconst 1, 1) := by decide +kernel
theorem dX6_takeFigures_65 : decode cX6_takeFigures 65 = .ok (.iadd, 1) := by decide +kernel
theorem dX6_takeFigures_66 : decode cX6_takeFigures 66 = .ok (.putfield 22, 3) := by decide +kernel
theorem dX6_takeFigures_69 : decode cX6_takeFigures 69 = .ok (.goto (-64), 3) := by decide +kernel
theorem dX6_takeFigures_72 : decode cX6_takeFigures 72 = .ok (.aload_n 0, 1) := by decide +kernel
theorem dX6_takeFigures_73 : decode cX6_takeFigures 73 = .ok (.aload_n 0, 1) := by decide +kernel
theorem dX6_takeFigures_74 : decode cX6_takeFigures 74 = .ok (.getfield 22, 3) := by decide +kernel
theorem dX6_takeFigures_77 : decode cX6_takeFigures 77 = .ok (.aload_n 0, 1) := by decide +kernel
theorem dX6_takeFigures_78 : decode cX6_takeFigures 78 = .ok (.getfield 19, 3) := by decide +kernel
theorem dX6_takeFigures_81 : decode cX6_takeFigures 81 = .ok (.isub, 1) := by decide +kernel
theorem dX6_takeFigures_82 : decode cX6_takeFigures 82 = .ok (.iconst 2, 1) := by decide +kernel
theorem dX6_takeFigures_83 : decode cX6_takeFigures 83 = .ok (.if_icmp .gt 9, 3) := by decide +kernel
theorem dX6_takeFigures_86 : decode cX6_takeFigures 86 = .ok (.sipush 256, 3) := by decide +kernel
theorem dX6_takeFigures_89 : decode cX6_takeFigures 89 = .ok (.goto 6, 3) := by decide +kernel
theorem dX6_takeFigures_92 : decode cX6_takeFigures 92 = .ok (.sipush 258, 3) := by decide +kernel
theorem dX6_takeFigures_95 : decode cX6_takeFigures 95 = .ok (.putfield 25, 3) := by decide +kernel
theorem dX6_takeFigures_98 : decode cX6_takeFigures 98 = .ok (.return_, 1) := by decide +kernel
theorem dX6_isFigure_0 : decode cX6_isFigure 0 = .ok (.iload_n 0, 1) := by decide +kernel
theorem dX6_isFigure_1 : decode cX6_isFigure 1 = .ok (.bipush 48, 2) := by decide +kernel
theorem dX6_isFigure_3 : decode cX6_isFigure 3 = .ok (.if_icmp .lt 13, 3) := by decide +kernel
theorem dX6_isFigure_6 : decode cX6_isFigure 6 = .ok (.iload_n 0, 1) := by decide +kernel
theorem dX6_isFigure_7 : decode cX6_isFigure 7 = .ok (.bipush 57, 2) := by decide +kernel
theorem dX6_isFigure_9 : decode cX6_isFigure 9 = .ok (.if_icmp .gt 7, 3) := by decide +kernel
theorem dX6_isFigure_12 : decode cX6_isFigure 12 = .ok (.iconst 1, 1) := by decide +kernel
theorem dX6_isFigure_13 : decode cX6_isFigure 13 = .ok (.goto 4, 3) := by decide +kernel
theorem dX6_isFigure_16 : decode cX6_isFigure 16 = .ok (.iconst 0, 1) := by decide +kernel
theorem dX6_isFigure_17 : decode cX6_isFigure 17 = .ok (.ireturn, 1) := by decide +kernel
theorem dX6_sortOf_0 : decode cX6_sortOf 0 = .ok (.iload_n 0, 1) := by decide +kernel
theorem dX6_sortOf_1 : decode cX6_sortOf 1 = .ok (.lookupswitch 61 #[(97, 51), (98, 57), (99, 55), (100, 59), (114, 53)], 51) := by decide +kernel
theorem dX6_sortOf_52 : decode cX6_sortOf 52 = .ok (.iconst 1, 1) := by decide +kernel
theorem dX6_sortOf_53 : decode cX6_sortOf 53 = .ok (.ireturn, 1) := by decide +kernel
theorem dX6_sortOf_54 : decode cX6_sortOf 54 = .ok (.iconst 2, 1) := by decide +kernel
theorem dX6_sortOf_55 : decode cX6_sortOf 55 = .ok (.ireturn, 1) := by decide +kernel
theorem dX6_sortOf_56 : decode cX6_sortOf 56 = .ok (.iconst 3, 1) := by decide +kernel
theorem dX6_sortOf_57 : decode cX6_sortOf 57 = .ok (.ireturn, 1) := by decide +kernel
theorem dX6_sortOf_58 : decode cX6_sortOf 58 = .ok (.iconst 4, 1) := by decide +kernel
theorem dX6_sortOf_59 : decode cX6_sortOf 59 = .ok (.ireturn, 1) := by decide +kernel
theorem dX6_sortOf_60 : decode cX6_sortOf 60 = .ok (.iconst 5, 1) := by decide +kernel
theorem dX6_sortOf_61 : decode cX6_sortOf 61 = .ok (.ireturn, 1) := by decide +kernel
theorem dX6_sortOf_62 : decode cX6_sortOf 62 = .ok (.iconst 0, 1) := by decide +kernel
theorem dX6_sortOf_63 : decode cX6_sortOf 63 = .ok (.ireturn, 1) := by decide +kernel
