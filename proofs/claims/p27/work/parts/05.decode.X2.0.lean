theorem dX2_init_0 : decode cX2_init 0 = .ok (.aload_n 0, 1) := by decide +kernel
theorem dX2_init_1 : decode cX2_init 1 = .ok (.invokespecial 3, 3) := by decide +kernel
theorem dX2_init_4 : decode cX2_init 4 = .ok (.aload_n 0, 1) := by decide +kernel
theorem dX2_init_5 : decode cX2_init 5 = .ok (.bipush 12, 2) := by decide +kernel
theorem dX2_init_7 : decode cX2_init 7 = .ok (.newarray .int, 2) := by decide +kernel
theorem dX2_init_9 : decode cX2_init 9 = .ok (.putfield 9, 3) := by decide +kernel
theorem dX2_init_12 : decode cX2_init 12 = .ok (.aload_n 0, 1) := by decide +kernel
theorem dX2_init_13 : decode cX2_init 13 = .ok (.bipush 13, 2) := by decide +kernel
theorem dX2_init_15 : decode cX2_init 15 = .ok (.newarray .int, 2) := by decide +kernel
theorem dX2_init_17 : decode cX2_init 17 = .ok (.putfield 15, 3) := by decide +kernel
theorem dX2_init_20 : decode cX2_init 20 = .ok (.aload_n 0, 1) := by decide +kernel
theorem dX2_init_21 : decode cX2_init 21 = .ok (.bipush 12, 2) := by decide +kernel
theorem dX2_init_23 : decode cX2_init 23 = .ok (.newarray .int, 2) := by decide +kernel
theorem dX2_init_25 : decode cX2_init 25 = .ok (.putfield 18, 3) := by decide +kernel
theorem dX2_init_28 : decode cX2_init 28 = .ok (.aload_n 0, 1) := by decide +kernel
theorem dX2_init_29 : decode cX2_init 29 = .ok (.bipush 12, 2) := by decide +kernel
theorem dX2_init_31 : decode cX2_init 31 = .ok (.newarray .int, 2) := by decide +kernel
theorem dX2_init_33 : decode cX2_init 33 = .ok (.putfield 21, 3) := by decide +kernel
theorem dX2_init_36 : decode cX2_init 36 = .ok (.aload_n 0, 1) := by decide +kernel
theorem dX2_init_37 : decode cX2_init 37 = .ok (.aload_n 1, 1) := by decide +kernel
theorem dX2_init_38 : decode cX2_init 38 = .ok (.putfield 24, 3) := by decide +kernel
theorem dX2_init_41 : decode cX2_init 41 = .ok (.return_, 1) := by decide +kernel
theorem dX2_search_0 : decode cX2_search 0 = .ok (.aload_n 0, 1) := by decide +kernel
theorem dX2_search_1 : decode cX2_search 1 = .ok (.invokevirtual 28, 3) := by decide +kernel
theorem dX2_search_4 : decode cX2_search 4 = .ok (.aload_n 0, 1) := by decide +kernel
theorem dX2_search_5 : decode cX2_search 5 = .ok (.invokevirtual 31, 3) := by decide +kernel
theorem dX2_search_8 : decode cX2_search 8 = .ok (.aload_n 0, 1) := by decide +kernel
theorem dX2_search_9 : decode cX2_search 9 = .ok (.aload_n 0, 1) := by decide +kernel
theorem dX2_search_10 : decode cX2_search 10 = .ok (.aload_n 0, 1) := by decide +kernel
theorem dX2_search_11 : decode cX2_search 11 = .ok (.getfield 24, 3) := by decide +kernel
theorem dX2_search_14 : decode cX2_search 14 = .ok (.getfield 34, 3) := by decide +kernel
theorem dX2_search_17 : decode cX2_search 17 = .ok (.iload_n 1, 1) := by decide +kernel
theorem dX2_search_18 : decode cX2_search 18 = .ok (.iaload, 1) := by decide +kernel
theorem dX2_search_19 : decode cX2_search 19 = .ok (.invokevirtual 39, 3) := by decide +kernel
theorem dX2_search_22 : decode cX2_search 22 = .ok (.putfield 43, 3) := by decide +kernel
theorem dX2_search_25 : decode cX2_search 25 = .ok (.aload_n 0, 1) := by decide +kernel
theorem dX2_search_26 : decode cX2_search 26 = .ok (.aload_n 0, 1) := by decide +kernel
theorem dX2_search_27 : decode cX2_search 27 = .ok (.getfield 24, 3) := by decide +kernel
theorem dX2_search_30 : decode cX2_search 30 = .ok (.getfield 34, 3) := by decide +kernel
theorem dX2_search_33 : decode cX2_search 33 = .ok (.iload_n 1, 1) := by decide +kernel
theorem dX2_search_34 : decode cX2_search 34 = .ok (.iaload, 1) := by decide +kernel
theorem dX2_search_35 : decode cX2_search 35 = .ok (.invokevirtual 47, 3) := by decide +kernel
theorem dX2_search_38 : decode cX2_search 38 = .ok (.ifCond .ne 8, 3) := by decide +kernel
theorem dX2_search_41 : decode cX2_search 41 = .ok (.aload_n 0, 1) := by decide +kernel
theorem dX2_search_42 : decode cX2_search 42 = .ok (.iconst 0, 1) := by decide +kernel
theorem dX2_search_43 : decode cX2_search 43 = .ok (.putfield 43, 3) := by decide +kernel
theorem dX2_search_46 : decode cX2_search 46 = .ok (.aload_n 0, 1) := by decide +kernel
theorem dX2_search_47 : decode cX2_search 47 = .ok (.getfield 43, 3) := by decide +kernel
theorem dX2_search_50 : decode cX2_search 50 = .ok (.ireturn, 1) := by decide +kernel
theorem dX2_collectSuccessors_0 : decode cX2_collectSuccessors 0 = .ok (.iconst 0, 1) := by decide +kernel
theorem dX2_collectSuccessors_1 : decode cX2_collectSuccessors 1 = .ok (.istore_n 1, 1) := by decide +kernel
theorem dX2_collectSuccessors_2 : decode cX2_collectSuccessors 2 = .ok (.iload_n 1, 1) := by decide +kernel
theorem dX2_collectSuccessors_3 : decode cX2_collectSuccessors 3 = .ok (.aload_n 0, 1) := by decide +kernel
theorem dX2_collectSuccessors_4 : decode cX2_collectSuccessors 4 = .ok (.getfield 24, 3) := by decide +kernel
theorem dX2_collectSuccessors_7 : decode cX2_collectSuccessors 7 = .ok (.getfield 51, 3) := by decide +kernel
theorem dX2_collectSuccessors_10 : decode cX2_collectSuccessors 10 = .ok (.if_icmp .ge 16, 3) := by decide +kernel
theorem dX2_collectSuccessors_13 : decode cX2_collectSuccessors 13 = .ok (.aload_n 0, 1) := by decide +kernel
theorem dX2_collectSuccessors_14 : decode cX2_collectSuccessors 14 = .ok (.getfield 9, 3) := by decide +kernel
theorem dX2_collectSuccessors_17 : decode cX2_collectSuccessors 17 = .ok (.iload_n 1, 1) := by decide +kernel
theorem dX2_collectSuccessors_18 : decode cX2_collectSuccessors 18 = .ok (.iconst 0, 1) := by decide +kernel
theorem dX2_collectSuccessors_19 : decode cX2_collectSuccessors 19 = .ok (.iastore, 1) := by decide +kernel
theorem dX2_collectSuccessors_20 : decode cX2_collectSuccessors 20 = .ok (.iinc 1 1, 3) := by decide +kernel
theorem dX2_collectSuccessors_23 : decode cX2_collectSuccessors 23 = .ok (.goto (-21), 3) := by decide +kernel
theorem dX2_collectSuccessors_26 : decode cX2_collectSuccessors 26 = .ok (.iconst 0, 1) := by decide +kernel
theorem dX2_collectSuccessors_27 : decode cX2_collectSuccessors 27 = .ok (.istore_n 1, 1) := by decide +kernel
theorem dX2_collectSuccessors_28 : decode cX2_collectSuccessors 28 = .ok (.iload_n 1, 1) := by decide +kernel
theorem dX2_collectSuccessors_29 : decode cX2_collectSuccessors 29 = .ok (.aload_n 0, 1) := by decide +kernel
theorem dX2_collectSuccessors_30 : decode cX2_collectSuccessors 30 = .ok (.getfield 24, 3) := by decide +kernel
theorem dX2_collectSuccessors_33 : decode cX2_collectSuccessors 33 = .ok (.getfield 54, 3) := by decide +kernel
theorem dX2_collectSuccessors_36 : decode cX2_collectSuccessors 36 = .ok (.if_icmp .ge 46, 3) := by decide +kernel
theorem dX2_collectSuccessors_39 : decode cX2_collectSuccessors 39 = .ok (.aload_n 0, 1) := by decide +kernel
theorem dX2_collectSuccessors_40 : decode cX2_collectSuccessors 40 = .ok (.getfield 24, 3) := by decide +kernel
theorem dX2_collectSuccessors_43 : decode cX2_collectSuccessors 43 = .ok (.iload_n 1, 1) := by decide +kernel
theorem dX2_collectSuccessors_44 : decode cX2_collectSuccessors 44 = .ok (.invokevirtual 57, 3) := by decide +kernel
theorem dX2_collectSuccessors_47 : decode cX2_collectSuccessors 47 = .ok (.ifCond .eq 29, 3) := by decide +kernel
theorem dX2_collectSuccessors_50 : decode cX2_collectSuccessors 50 = .ok (.aload_n 0, 1) := by decide +kernel
theorem dX2_collectSuccessors_51 : decode cX2_collectSuccessors 51 = .ok (.getfield 9, 3) := by decide +kernel
theorem dX2_collectSuccessors_54 : decode cX2_collectSuccessors 54 = .ok (.aload_n 0, 1) := by decide +kernel
theorem dX2_collectSuccessors_55 : decode cX2_collectSuccessors 55 = .ok (.getfield 24, 3) := by decide +kernel
theorem dX2_collectSuccessors_58 : decode cX2_collectSuccessors 58 = .ok (.getfield 60, 3) := by decide +kernel
theorem dX2_collectSuccessors_61 : decode cX2_collectSuccessors 61 = .ok (.iload_n 1, 1) := by decide +kernel
theorem dX2_collectSuccessors_62 : decode cX2_collectSuccessors 62 = .ok (.iaload, 1) := by decide +kernel
theorem dX2_collectSuccessors_63 : decode cX2_collectSuccessors 63 = .ok (.dup2, 1) := by decide +kernel
theorem dX2_collectSuccessors_64 : decode cX2_collectSuccessors 64 = .ok (.iaload, 1) := by decide +kernel
theorem dX2_collectSuccessors_65 : decode cX2_collectSuccessors 65 = .ok (.aload_n 0, 1) := by decide +kernel
theorem dX2_collectSuccessors_66 : decode cX2_collectSuccessors 66 = .ok (.getfield 24, 3) := by decide +kernel
theorem dX2_collectSuccessors_69 : decode cX2_collectSuccessors 69 = .ok (.getfield 34, 3) := by decide +kernel
theorem dX2_collectSuccessors_72 : decode cX2_collectSuccessors 72 = .ok (.iload_n 1, 1) := by decide +kernel
theorem dX2_collectSuccessors_73 : decode cX2_collectSuccessors 73 = .ok (.iaload, 1) := by decide +kernel
theorem dX2_collectSuccessors_74 : decode cX2_collectSuccessors 74 = .ok (.ior, 1) := by decide +kernel
theorem dX2_collectSuccessors_75 : decode cX2_collectSuccessors 75 = .ok (.iastore, 1) := by decide +kernel
theorem dX2_collectSuccessors_76 : decode cX2_collectSuccessors 76 = .ok (.iinc 1 1, 3) := by decide +kernel
theorem dX2_collectSuccessors_79 : decode cX2_collectSuccessors 79 = .ok (.goto (-51), 3) := by decide +kernel
theorem dX2_collectSuccessors_82 : decode cX2_collectSuccessors 82 = .ok (.return_, 1) := by decide +kernel
theorem dX2_buildLayers_0 : decode cX2_buildLayers 0 = .ok (.aload_n 0, 1) := by decide +kernel
theorem dX2_buildLayers_1 : decode cX2_buildLayers 1 = .ok (.getfield 15, 3) := by decide +kernel
theorem dX2_buildLayers_4 : decode cX2_buildLayers 4 = .ok (.iconst 1, 1) := by decide +kernel
theorem dX2_buildLayers_5 : decode cX2_buildLayers 5 = .ok (.iconst 0, 1) := by decide +kernel
theorem dX2_buildLayers_6 : decode cX2_buildLayers 6 = .ok (.iastore, 1) := by decide +kernel
theorem dX2_buildLayers_7 : decode cX2_buildLayers 7 = .ok (.iconst 0, 1) := by decide +kernel
theorem dX2_buildLayers_8 : decode cX2_buildLayers 8 = .ok (.istore_n 1, 1) := by decide +kernel
theorem dX2_buildLayers_9 : decode cX2_buildLayers 9 = .ok (.iload_n 1, 1) := by decide +kernel
theorem dX2_buildLayers_10 : decode cX2_buildLayers 10 = .ok (.aload_n 0, 1) := by decide +kernel
theorem dX2_buildLayers_11 : decode cX2_buildLayers 11 = .ok (.getfield 24, 3) := by decide +kernel
theorem dX2_buildLayers_14 : decode cX2_buildLayers 14 = .ok (.getfield 51, 3) := by decide +kernel
theorem dX2_buildLayers_17 : decode cX2_buildLayers 17 = .ok (.if_icmp .ge 32, 3) := by decide +kernel
theorem dX2_buildLayers_20 : decode cX2_buildLayers 20 = .ok (.aload_n 0, 1) := by decide +kernel
theorem dX2_buildLayers_21 : decode cX2_buildLayers 21 = .ok (.getfield 24, 3) := by decide +kernel
theorem dX2_buildLayers_24 : decode cX2_buildLayers 24 = .ok (.iload_n 1, 1) := by decide +kernel
theorem dX2_buildLayers_25 : decode cX2_buildLayers 25 = .ok (.invokevirtual 63, 3) := by decide +kernel
theorem dX2_buildLayers_28 : decode cX2_buildLayers 28 = .ok (.ifCond .eq 15, 3) := by decide +kernel
theorem dX2_buildLayers_31 : decode cX2_buildLayers 31 = .ok (.aload_n 0, 1) := by decide +kernel
theorem dX2_buildLayers_32 : decode cX2_buildLayers 32 = .ok (.getfield 15, 3) := by decide +kernel
theorem dX2_buildLayers_35 : decode cX2_buildLayers 35 = .ok (.iconst 1, 1) := by decide +kernel
theorem dX2_buildLayers_36 : decode cX2_buildLayers 36 = .ok (.dup2, 1) := by decide +kernel
theorem dX2_buildLayers_37 : decode cX2_buildLayers 37 = .ok (.iaload, 1) := by decide +kernel
theorem dX2_buildLayers_38 : decode cX2_buildLayers 38 = .ok (.iconst 1, 1) := by decide +kernel
theorem dX2_buildLayers_39 : decode cX2_buildLayers 39 = .ok (.iload_n 1, 1) := by decide +kernel
theorem dX2_buildLayers_40 : decode cX2_buildLayers 40 = .ok (.ishl, 1) := by decide +kernel
theorem dX2_buildLayers_41 : decode cX2_buildLayers 41 = .ok (.ior, 1) := by decide +kernel
theorem dX2_buildLayers_42 : decode cX2_buildLayers 42 = .ok (.iastore, 1) := by decide +kernel
theorem dX2_buildLayers_43 : decode cX2_buildLayers 43 = .ok (.iinc 1 1, 3) := by decide +kernel
theorem dX2_buildLayers_46 : decode cX2_buildLayers 46 = .ok (.goto (-37), 3) := by decide +kernel
theorem dX2_buildLayers_49 : decode cX2_buildLayers 49 = .ok (.aload_n 0, 1) := by decide +kernel
theorem dX2_buildLayers_50 : decode cX2_buildLayers 50 = .ok (.getfield 15, 3) := by decide +kernel
theorem dX2_buildLayers_53 : decode cX2_buildLayers 53 = .ok (.iconst 1, 1) := by decide +kernel
theorem dX2_buildLayers_54 : decode cX2_buildLayers 54 = .ok (.iaload, 1) := by decide +kernel
theorem dX2_buildLayers_55 : decode cX2_buildLayers 55 = .ok (.istore_n 1, 1) := by decide +kernel
theorem dX2_buildLayers_56 : decode cX2_buildLayers 56 = .ok (.iconst 2, 1) := by decide +kernel
theorem dX2_buildLayers_57 : decode cX2_buildLayers 57 = .ok (.istore_n 2, 1) := by decide +kernel
theorem dX2_buildLayers_58 : decode cX2_buildLayers 58 = .ok (.iload_n 2, 1) := by decide +kernel
theorem dX2_buildLayers_59 : decode cX2_buildLayers 59 = .ok (.aload_n 0, 1) := by decide +kernel
theorem dX2_buildLayers_60 : decode cX2_buildLayers 60 = .ok (.getfield 24, 3) := by decide +kernel
theorem dX2_buildLayers_63 : decode cX2_buildLayers 63 = .ok (.getfield 51, 3) := by decide +kernel
theorem dX2_buildLayers_66 : decode cX2_buildLayers 66 = .ok (.if_icmp .gt 40, 3) := by decide +kernel
theorem dX2_buildLayers_69 : decode cX2_buildLayers 69 = .ok (.aload_n 0, 1) := by decide +kernel
theorem dX2_buildLayers_70 : decode cX2_buildLayers 70 = .ok (.getfield 15, 3) := by decide +kernel
theorem dX2_buildLayers_73 : decode cX2_buildLayers 73 = .ok (.iload_n 2, 1) := by decide +kernel
theorem dX2_buildLayers_74 : decode cX2_buildLayers 74 = .ok (.aload_n 0, 1) := by decide +kernel
theorem dX2_buildLayers_75 : decode cX2_buildLayers 75 = .ok (.aload_n 0, 1) := by decide +kernel
theorem dX2_buildLayers_76 : decode cX2_buildLayers 76 = .ok (.getfield 15, 3) := by decide +kernel
theorem dX2_buildLayers_79 : decode cX2_buildLayers 79 = .ok (.iload_n 2, 1) := by decide +kernel
theorem dX2_buildLayers_80 : decode cX2_buildLayers 80 = .ok (.iconst 1, 1) := by decide +kernel
theorem dX2_buildLayers_81 : decode cX2_buildLayers 81 = .ok (.isub, 1) := by decide +kernel
theorem dX2_buildLayers_82 : decode cX2_buildLayers 82 = .ok (.iaload, 1) := by decide +kernel
theorem dX2_buildLayers_83 : decode cX2_buildLayers 83 = .ok (.invokevirtual 66, 3) := by decide +kernel
theorem dX2_buildLayers_86 : decode cX2_buildLayers 86 = .ok (.iload_n 1, 1) := by decide +kernel
theorem dX2_buildLayers_87 : decode cX2_buildLayers 87 = .ok (.iconst (-1), 1) := by decide +kernel
theorem dX2_buildLayers_88 : decode cX2_buildLayers 88 = .ok (.ixor, 1) := by decide +kernel
theorem dX2_buildLayers_89 : decode cX2_buildLayers 89 = .ok (.iand, 1) := by decide +kernel
theorem dX2_buildLayers_90 : decode cX2_buildLayers 90 = .ok (.iastore, 1) := by decide +kernel
theorem dX2_buildLayers_91 : decode cX2_buildLayers 91 = .ok (.iload_n 1, 1) := by decide +kernel
theorem dX2_buildLayers_92 : decode cX2_buildLayers 92 = .ok (.aload_n 0, 1) := by decide +kernel
theorem dX2_buildLayers_93 : decode cX2_buildLayers 93 = .ok (.getfield 15, 3) := by decide +kernel
theorem dX2_buildLayers_96 : decode cX2_buildLayers 96 = .ok (.iload_n 2, 1) := by decide +kernel
theorem dX2_buildLayers_97 : decode cX2_buildLayers 97 = .ok (.iaload, 1) := by decide +kernel
theorem dX2_buildLayers_98 : decode cX2_buildLayers 98 = .ok (.ior, 1) := by decide +kernel
theorem dX2_buildLayers_99 : decode cX2_buildLayers 99 = .ok (.istore_n 1, 1) := by decide +kernel
theorem dX2_buildLayers_100 : decode cX2_buildLayers 100 = .ok (.iinc 2 1, 3) := by decide +kernel
theorem dX2_buildLayers_103 : decode cX2_buildLayers 103 = .ok (.goto (-45), 3) := by decide +kernel
theorem dX2_buildLayers_106 : decode cX2_buildLayers 106 = .ok (.return_, 1) := by decide +kernel
theorem dX2_leadingTo_0 : decode cX2_leadingTo 0 = .ok (.iconst 0, 1) := by decide +kernel
theorem dX2_leadingTo_1 : decode cX2_leadingTo 1 = .ok (.istore_n 2, 1) := by decide +kernel
theorem dX2_leadingTo_2 : decode cX2_leadingTo 2 = .ok (.iconst 0, 1) := by decide +kernel
theorem dX2_leadingTo_3 : decode cX2_leadingTo 3 = .ok (.istore_n 3, 1) := by decide +kernel
theorem dX2_leadingTo_4 : decode cX2_leadingTo 4 = .ok (.iload_n 3, 1) := by decide +kernel
theorem dX2_leadingTo_5 : decode cX2_leadingTo 5 = .ok (.aload_n 0, 1) := by decide +kernel
theorem dX2_leadingTo_6 : decode cX2_leadingTo 6 = .ok (.getfield 24, 3) := by decide +kernel
theorem dX2_leadingTo_9 : decode cX2_leadingTo 9 = .ok (.getfield 51, 3) := by decide +kernel
theorem dX2_leadingTo_12 : decode cX2_leadingTo 12 = .ok (.if_icmp .ge 26, 3) := by decide +kernel
theorem dX2_leadingTo_15 : decode cX2_leadingTo 15 = .ok (.aload_n 0, 1) := by decide +kernel
theorem dX2_leadingTo_16 : decode cX2_leadingTo 16 = .ok (.getfield 9, 3) := by decide +kernel
theorem dX2_leadingTo_19 : decode cX2_leadingTo 19 = .ok (.iload_n 3, 1) := by decide +kernel
theorem dX2_leadingTo_20 : decode cX2_leadingTo 20 = .ok (.iaload, 1) := by decide +kernel
theorem dX2_leadingTo_21 : decode cX2_leadingTo 21 = .ok (.iload_n 1, 1) := by decide +kernel
theorem dX2_leadingTo_22 : decode cX2_leadingTo 22 = .ok (.iand, 1) := by decide +kernel
theorem dX2_leadingTo_23 : decode cX2_leadingTo 23 = .ok (.ifCond .eq 9, 3) := by decide +kernel
theorem dX2_leadingTo_26 : decode cX2_leadingTo 26 = .ok (.iload_n 2, 1) := by decide +kernel
theorem dX2_leadingTo_27 : decode cX2_leadingTo 27 = .ok (.iconst 1, 1) := by decide +kernel
theorem dX2_leadingTo_28 : decode cX2_leadingTo 28 = .ok (.iload_n 3, 1) := by decide +kernel
theorem dX2_leadingTo_29 : decode cX2_leadingTo 29 = .ok (.ishl, 1) := by decide +kernel
theorem dX2_leadingTo_30 : decode cX2_leadingTo 30 = .ok (.ior, 1) := by decide +kernel
theorem dX2_leadingTo_31 : decode cX2_leadingTo 31 = .ok (.istore_n 2, 1) := by decide +kernel
theorem dX2_leadingTo_32 : decode cX2_leadingTo 32 = .ok (.iinc 3 1, 3) := by decide +kernel
theorem dX2_leadingTo_35 : decode cX2_leadingTo 35 = .ok (.goto (-31), 3) := by decide +kernel
theorem dX2_leadingTo_38 : decode cX2_leadingTo 38 = .ok (.iload_n 2, 1) := by decide +kernel
theorem dX2_leadingTo_39 : decode cX2_leadingTo 39 = .ok (.ireturn, 1) := by decide +kernel
theorem dX2_shortestFrom_0 : decode cX2_shortestFrom 0 = .ok (.iconst 1, 1) := by decide +kernel
theorem dX2_shortestFrom_1 : decode cX2_shortestFrom 1 = .ok (.istore_n 2, 1) := by decide +kernel
theorem dX2_shortestFrom_2 : decode cX2_shortestFrom 2 = .ok (.iload_n 2, 1) := by decide +kernel
theorem dX2_shortestFrom_3 : decode cX2_shortestFrom 3 = .ok (.aload_n 0, 1) := by decide +kernel
theorem dX2_shortestFrom_4 : decode cX2_shortestFrom 4 = .ok (.getfield 24, 3) := by decide +kernel
theorem dX2_shortestFrom_7 : decode cX2_shortestFrom 7 = .ok (.getfield 51, 3) := by decide +kernel
theorem dX2_shortestFrom_10 : decode cX2_shortestFrom 10 = .ok (.if_icmp .gt 22, 3) := by decide +kernel
theorem dX2_shortestFrom_13 : decode cX2_shortestFrom 13 = .ok (.aload_n 0, 1) := by decide +kernel
theorem dX2_shortestFrom_14 : decode cX2_shortestFrom 14 = .ok (.getfield 15, 3) := by decide +kernel
theorem dX2_shortestFrom_17 : decode cX2_shortestFrom 17 = .ok (.iload_n 2, 1) := by decide +kernel
theorem dX2_shortestFrom_18 : decode cX2_shortestFrom 18 = .ok (.iaload, 1) := by decide +kernel
theorem dX2_shortestFrom_19 : decode cX2_shortestFrom 19 = .ok (.iload_n 1, 1) := by decide +kernel
theorem dX2_shortestFrom_20 : decode cX2_shortestFrom 20 = .ok (.iand, 1) := by decide +kernel
theorem dX2_shortestFrom_21 : decode cX2_shortestFrom 21 = .ok (.ifCond .eq 5, 3) := by decide +kernel
theorem dX2_shortestFrom_24 : decode cX2_shortestFrom 24 = .ok (.iload_n 2, 1) := by decide +kernel
theorem dX2_shortestFrom_25 : decode cX2_shortestFrom 25 = .ok (.ireturn, 1) := by decide +kernel
theorem dX2_shortestFrom_26 : decode cX2_shortestFrom 26 = .ok (.iinc 2 1, 3) := by decide +kernel
theorem dX2_shortestFrom_29 : decode cX2_shortestFrom 29 = .ok (.goto (-27), 3) := by decide +kernel
theorem dX2_shortestFrom_32 : decode cX2_shortestFrom 32 = .ok (.iconst 0, 1) := by decide +kernel
theorem dX2_shortestFrom_33 : decode cX2_shortestFrom 33 = .ok (.ireturn, 1) := by decide +kernel
theorem dX2_trace_0 : decode cX2_trace 0 = .ok (.iload_n 1, 1) := by decide +kernel
theorem dX2_trace_1 : decode cX2_trace 1 = .ok (.aload_n 0, 1) := by decide +kernel
theorem dX2_trace_2 : decode cX2_trace 2 = .ok (.getfield 15, 3) := by decide +kernel
theorem dX2_trace_5 : decode cX2_trace 5 = .ok (.aload_n 0, 1) := by decide +kernel
theorem dX2_trace_6 : decode cX2_trace 6 = .ok (.getfield 43, 3) := by decide +kernel
theorem dX2_trace_9 : decode cX2_trace 9 = .ok (.iaload, 1) := by decide +kernel
theorem dX2_trace_10 : decode cX2_trace 10 = .ok (.iand, 1) := by decide +kernel
theorem dX2_trace_11 : decode cX2_trace 11 = .ok (.invokestatic 69, 3) := by decide +kernel
theorem dX2_trace_14 : decode cX2_trace 14 = .ok (.istore_n 2, 1) := by decide +kernel
theorem dX2_trace_15 : decode cX2_trace 15 = .ok (.iconst 0, 1) := by decide +kernel
theorem dX2_trace_16 : decode cX2_trace 16 = .ok (.istore_n 3, 1) := by decide +kernel
theorem dX2_trace_17 : decode cX2_trace 17 = .ok (.iload_n 3, 1) := by decide +kernel
theorem dX2_trace_18 : decode cX2_trace 18 = .ok (.aload_n 0, 1) := by decide +kernel
theorem dX2_trace_19 : decode cX2_trace 19 = .ok (.getfield 43, 3) := by decide +kernel
theorem dX2_trace_22 : decode cX2_trace 22 = .ok (.iconst 1, 1) := by decide +kernel
theorem dX2_trace_23 : decode cX2_trace 23 = .ok (.isub, 1) := by decide +kernel
theorem dX2_trace_24 : decode cX2_trace 24 = .ok (.if_icmp .ge 78, 3) := by decide +kernel
theorem dX2_trace_27 : decode cX2_trace 27 = .ok (.iload_n 2, 1) := by decide +kernel
theorem dX2_trace_28 : decode cX2_trace 28 = .ok (.iconst (-1), 1) := by decide +kernel
theorem dX2_trace_29 : decode cX2_trace 29 = .ok (.if_icmp .eq 73, 3) := by decide +kernel
theorem dX2_trace_32 : decode cX2_trace 32 = .ok (.aload_n 0, 1) := by decide +kernel
theorem dX2_trace_33 : decode cX2_trace 33 = .ok (.getfield 15, 3) := by decide +kernel
theorem dX2_trace_36 : decode cX2_trace 36 = .ok (.aload_n 0, 1) := by decide +kernel
theorem dX2_trace_37 : decode cX2_trace 37 = .ok (.getfield 43, 3) := by decide +kernel
theorem dX2_trace_40 : decode cX2_trace 40 = .ok (.iload_n 3, 1) := by decide +kernel
theorem dX2_trace_41 : decode cX2_trace 41 = .ok (.isub, 1) := by decide +kernel
theorem dX2_trace_42 : decode cX2_trace 42 = .ok (.iconst 1, 1) := by decide +kernel
theorem dX2_trace_43 : decode cX2_trace 43 = .ok (.isub, 1) := by decide +kernel
theorem dX2_trace_44 : decode cX2_trace 44 = .ok (.iaload, 1) := by decide +kernel
theorem dX2_trace_45 : decode cX2_trace 45 = .ok (.istore 4, 2) := by decide +kernel
theorem dX2_trace_47 : decode cX2_trace 47 = .ok (.aload_n 0, 1) := by decide +kernel
theorem dX2_trace_48 : decode cX2_trace 48 = .ok (.iload_n 2, 1) := by decide +kernel
theorem dX2_trace_49 : decode cX2_trace 49 = .ok (.iload 4, 2) := by decide +kernel
theorem dX2_trace_51 : decode cX2_trace 51 = .ok (.invokevirtual 72, 3) := by decide +kernel
theorem dX2_trace_54 : decode cX2_trace 54 = .ok (.istore 5, 2) := by decide +kernel
theorem dX2_trace_56 : decode cX2_trace 56 = .ok (.iload 5, 2) := by decide +kernel
theorem dX2_trace_58 : decode cX2_trace 58 = .ok (.iconst (-1), 1) := by decide +kernel
theorem dX2_trace_59 : decode cX2_trace 59 = .ok (.if_icmp .ne 5, 3) := by decide +kernel
theorem dX2_trace_62 : decode cX2_trace 62 = .ok (.iconst 0, 1) := by decide +kernel
theorem dX2_trace_63 : decode cX2_trace 63 = .ok (.ireturn, 1) := by decide +kernel
theorem dX2_trace_64 : decode cX2_trace 64 = .ok (.aload_n 0, 1) := by decide +kernel
theorem dX2_trace_65 : decode cX2_trace 65 = .ok (.getfield 18, 3) := by decide +kernel
theorem dX2_trace_68 : decode cX2_trace 68 = .ok (.iload_n 3, 1) := by decide +kernel
theorem dX2_trace_69 : decode cX2_trace 69 = .ok (.iload_n 2, 1) := by decide +kernel
theorem dX2_trace_70 : decode cX2_trace 70 = .ok (.iastore, 1) := by decide +kernel
theorem dX2_trace_71 : decode cX2_trace 71 = .ok (.aload_n 0, 1) := by decide +kernel
theorem dX2_trace_72 : decode cX2_trace 72 = .ok (.getfield 21, 3) := by decide +kernel
theorem dX2_trace_75 : decode cX2_trace 75 = .ok (.iload_n 3, 1) := by decide +kernel
theorem dX2_trace_76 : decode cX2_trace 76 = .ok (.iload 5, 2) := by decide +kernel
theorem dX2_trace_78 : decode cX2_trace 78 = .ok (.iastore, 1) := by decide +kernel
theorem dX2_trace_79 : decode cX2_trace 79 = .ok (.aload_n 0, 1) := by decide +kernel
theorem dX2_trace_80 : decode cX2_trace 80 = .ok (.getfield 24, 3) := by decide +kernel
theorem dX2_trace_83 : decode cX2_trace 83 = .ok (.getfield 34, 3) := by decide +kernel
theorem dX2_trace_86 : decode cX2_trace 86 = .ok (.iload 5, 2) := by decide +kernel
theorem dX2_trace_88 : decode cX2_trace 88 = .ok (.iaload, 1) := by decide +kernel
theorem dX2_trace_89 : decode cX2_trace 89 = .ok (.iload 4, 2) := by decide +kernel
theorem dX2_trace_91 : decode cX2_trace 91 = .ok (.iand, 1) := by decide +kernel
theorem dX2_trace_92 : decode cX2_trace 92 = .ok (.invokestatic 69, 3) := by decide +kernel
theorem dX2_trace_95 : decode cX2_trace 95 = .ok (.istore_n 2, 1) := by decide +kernel
theorem dX2_trace_96 : decode cX2_trace 96 = .ok (.iinc 3 1, 3) := by decide +kernel
theorem dX2_trace_99 : decode cX2_trace 99 = .ok (.goto (-82), 3) := by decide +kernel
theorem dX2_trace_102 : decode cX2_trace 102 = .ok (.aload_n 0, 1) := by decide +kernel
theorem dX2_trace_103 : decode cX2_trace 103 = .ok (.getfield 43, 3) := by decide +kernel
theorem dX2_trace_106 : decode cX2_trace 106 = .ok (.ifCond .eq 8, 3) := by decide +kernel
theorem dX2_trace_109 : decode cX2_trace 109 = .ok (.iload_n 2, 1) := by decide +kernel
theorem dX2_trace_110 : decode cX2_trace 110 = .ok (.iconst (-1), 1) := by decide +kernel
theorem dX2_trace_111 : decode cX2_trace 111 = .ok (.if_icmp .ne 5, 3) := by decide +kernel
theorem dX2_trace_114 : decode cX2_trace 114 = .ok (.iconst 0, 1) := by decide +kernel
theorem dX2_trace_115 : decode cX2_trace 115 = .ok (.ireturn, 1) := by decide +kernel
theorem dX2_trace_116 : decode cX2_trace 116 = .ok (.aload_n 0, 1) := by decide +kernel
theorem dX2_trace_117 : decode cX2_trace 117 = .ok (.getfield 18, 3) := by decide +kernel
theorem dX2_trace_120 : decode cX2_trace 120 = .ok (.aload_n 0, 1) := by decide +kernel
theorem dX2_trace_121 : decode cX2_trace 121 = .ok (.getfield 43, 3) := by decide +kernel
theorem dX2_trace_124 : decode cX2_trace 124 = .ok (.iconst 1, 1) := by decide +kernel
theorem dX2_trace_125 : decode cX2_trace 125 = .ok (.isub, 1) := by decide +kernel
theorem dX2_trace_126 : decode cX2_trace 126 = .ok (.iload_n 2, 1) := by decide +kernel
theorem dX2_trace_127 : decode cX2_trace 127 = .ok (.iastore, 1) := by decide +kernel
theorem dX2_trace_128 : decode cX2_trace 128 = .ok (.iconst 1, 1) := by decide +kernel
theorem dX2_trace_129 : decode cX2_trace 129 = .ok (.ireturn, 1) := by decide +kernel
theorem dX2_firstMovable_0 : decode cX2_firstMovable 0 = .ok (.iconst 0, 1) := by decide +kernel
theorem dX2_firstMovable_1 : decode cX2_firstMovable 1 = .ok (.istore_n 3, 1) := by decide +kernel
theorem dX2_firstMovable_2 : decode cX2_firstMovable 2 = .ok (.iload_n 3, 1) := by decide +kernel
theorem dX2_firstMovable_3 : decode cX2_firstMovable 3 = .ok (.aload_n 0, 1) := by decide +kernel
theorem dX2_firstMovable_4 : decode cX2_firstMovable 4 = .ok (.getfield 24, 3) := by decide +kernel
theorem dX2_firstMovable_7 : decode cX2_firstMovable 7 = .ok (.getfield 54, 3) := by decide +kernel
theorem dX2_firstMovable_10 : decode cX2_firstMovable 10 = .ok (.if_icmp .ge 49, 3) := by decide +kernel
theorem dX2_firstMovable_13 : decode cX2_firstMovable 13 = .ok (.aload_n 0, 1) := by decide +kernel
theorem dX2_firstMovable_14 : decode cX2_firstMovable 14 = .ok (.getfield 24, 3) := by decide +kernel
theorem dX2_firstMovable_17 : decode cX2_firstMovable 17 = .ok (.getfield 60, 3) := by decide +kernel
theorem dX2_firstMovable_20 : decode cX2_firstMovable 20 = .ok (.iload_n 3, 1) := by decide +kernel
theorem dX2_firstMovable_21 : decode cX2_firstMovable 21 = .ok (.iaload, 1) := by decide +kernel
theorem dX2_firstMovable_22 : decode cX2_firstMovable 22 = .ok (.iload_n 1, 1) := by decide +kernel
theorem dX2_firstMovable_23 : decode cX2_firstMovable 23 = .ok (.if_icmp .ne 30, 3) := by decide +kernel
theorem dX2_firstMovable_26 : decode cX2_firstMovable 26 = .ok (.aload_n 0, 1) := by decide +kernel
theorem dX2_firstMovable_27 : decode cX2_firstMovable 27 = .ok (.getfield 24, 3) := by decide +kernel
theorem dX2_firstMovable_30 : decode cX2_firstMovable 30 = .ok (.iload_n 3, 1) := by decide +kernel
theorem dX2_firstMovable_31 : decode cX2_firstMovable 31 = .ok (.invokevirtual 57, 3) := by decide +kernel
theorem dX2_firstMovable_34 : decode cX2_firstMovable 34 = .ok (.ifCond .eq 19, 3) := by decide +kernel
theorem dX2_firstMovable_37 : decode cX2_firstMovable 37 = .ok (.aload_n 0, 1) := by decide +kernel
theorem dX2_firstMovable_38 : decode cX2_firstMovable 38 = .ok (.getfield 24, 3) := by decide +kernel
theorem dX2_firstMovable_41 : decode cX2_firstMovable 41 = .ok (.getfield 34, 3) := by decide +kernel
theorem dX2_firstMovable_44 : decode cX2_firstMovable 44 = .ok (.iload_n 3, 1) := by decide +kernel
theorem dX2_firstMovable_45 : decode cX2_firstMovable 45 = .ok (.iaload, 1) := by decide +kernel
theorem dX2_firstMovable_46 : decode cX2_firstMovable 46 = .ok (.iload_n 2, 1) := by decide +kernel
theorem dX2_firstMovable_47 : decode cX2_firstMovable 47 = .ok (.iand, 1) := by decide +kernel
theorem dX2_firstMovable_48 : decode cX2_firstMovable 48 = .ok (.ifCond .eq 5, 3) := by decide +kernel
theorem dX2_firstMovable_51 : decode cX2_firstMovable 51 = .ok (.iload_n 3, 1) := by decide +kernel
theorem dX2_firstMovable_52 : decode cX2_firstMovable 52 = .ok (.ireturn, 1) := by decide +kernel
theorem dX2_firstMovable_53 : decode cX2_firstMovable 53 = .ok (.iinc 3 1, 3) := by decide +kernel
theorem dX2_firstMovable_56 : decode cX2_firstMovable 56 = .ok (.goto (-54), 3) := by decide +kernel
theorem dX2_firstMovable_59 : decode cX2_firstMovable 59 = .ok (.iconst (-1), 1) := by decide +kernel
theorem dX2_firstMovable_60 : decode cX2_firstMovable 60 = .ok (.ireturn, 1) := by decide +kernel
