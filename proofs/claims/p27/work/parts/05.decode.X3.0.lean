theorem dX3_init_0 : decode cX3_init 0 = .ok (.aload_n 0, 1) := by decide +kernel
theorem dX3_init_1 : decode cX3_init 1 = .ok (.invokespecial 3, 3) := by decide +kernel
theorem dX3_init_4 : decode cX3_init 4 = .ok (.aload_n 0, 1) := by decide +kernel
theorem dX3_init_5 : decode cX3_init 5 = .ok (.bipush 40, 2) := by decide +kernel
theorem dX3_init_7 : decode cX3_init 7 = .ok (.newarray .boolean, 2) := by decide +kernel
theorem dX3_init_9 : decode cX3_init 9 = .ok (.putfield 9, 3) := by decide +kernel
theorem dX3_init_12 : decode cX3_init 12 = .ok (.aload_n 0, 1) := by decide +kernel
theorem dX3_init_13 : decode cX3_init 13 = .ok (.aload_n 1, 1) := by decide +kernel
theorem dX3_init_14 : decode cX3_init 14 = .ok (.putfield 15, 3) := by decide +kernel
theorem dX3_init_17 : decode cX3_init 17 = .ok (.aload_n 0, 1) := by decide +kernel
theorem dX3_init_18 : decode cX3_init 18 = .ok (.aload_n 2, 1) := by decide +kernel
theorem dX3_init_19 : decode cX3_init 19 = .ok (.putfield 19, 3) := by decide +kernel
theorem dX3_init_22 : decode cX3_init 22 = .ok (.aload_n 0, 1) := by decide +kernel
theorem dX3_init_23 : decode cX3_init 23 = .ok (.aload_n 3, 1) := by decide +kernel
theorem dX3_init_24 : decode cX3_init 24 = .ok (.putfield 23, 3) := by decide +kernel
theorem dX3_init_27 : decode cX3_init 27 = .ok (.return_, 1) := by decide +kernel
theorem dX3_runOnce_0 : decode cX3_runOnce 0 = .ok (.iconst 0, 1) := by decide +kernel
theorem dX3_runOnce_1 : decode cX3_runOnce 1 = .ok (.istore_n 1, 1) := by decide +kernel
theorem dX3_runOnce_2 : decode cX3_runOnce 2 = .ok (.iload_n 1, 1) := by decide +kernel
theorem dX3_runOnce_3 : decode cX3_runOnce 3 = .ok (.aload_n 0, 1) := by decide +kernel
theorem dX3_runOnce_4 : decode cX3_runOnce 4 = .ok (.getfield 15, 3) := by decide +kernel
theorem dX3_runOnce_7 : decode cX3_runOnce 7 = .ok (.getfield 27, 3) := by decide +kernel
theorem dX3_runOnce_10 : decode cX3_runOnce 10 = .ok (.if_icmp .ge 16, 3) := by decide +kernel
theorem dX3_runOnce_13 : decode cX3_runOnce 13 = .ok (.aload_n 0, 1) := by decide +kernel
theorem dX3_runOnce_14 : decode cX3_runOnce 14 = .ok (.getfield 9, 3) := by decide +kernel
theorem dX3_runOnce_17 : decode cX3_runOnce 17 = .ok (.iload_n 1, 1) := by decide +kernel
theorem dX3_runOnce_18 : decode cX3_runOnce 18 = .ok (.iconst 0, 1) := by decide +kernel
theorem dX3_runOnce_19 : decode cX3_runOnce 19 = .ok (.bastore, 1) := by decide +kernel
theorem dX3_runOnce_20 : decode cX3_runOnce 20 = .ok (.iinc 1 1, 3) := by decide +kernel
theorem dX3_runOnce_23 : decode cX3_runOnce 23 = .ok (.goto (-21), 3) := by decide +kernel
theorem dX3_runOnce_26 : decode cX3_runOnce 26 = .ok (.iconst 0, 1) := by decide +kernel
theorem dX3_runOnce_27 : decode cX3_runOnce 27 = .ok (.istore_n 1, 1) := by decide +kernel
theorem dX3_runOnce_28 : decode cX3_runOnce 28 = .ok (.iconst 0, 1) := by decide +kernel
theorem dX3_runOnce_29 : decode cX3_runOnce 29 = .ok (.istore_n 2, 1) := by decide +kernel
theorem dX3_runOnce_30 : decode cX3_runOnce 30 = .ok (.iload_n 2, 1) := by decide +kernel
theorem dX3_runOnce_31 : decode cX3_runOnce 31 = .ok (.aload_n 0, 1) := by decide +kernel
theorem dX3_runOnce_32 : decode cX3_runOnce 32 = .ok (.getfield 15, 3) := by decide +kernel
theorem dX3_runOnce_35 : decode cX3_runOnce 35 = .ok (.getfield 27, 3) := by decide +kernel
theorem dX3_runOnce_38 : decode cX3_runOnce 38 = .ok (.if_icmp .ge 40, 3) := by decide +kernel
theorem dX3_runOnce_41 : decode cX3_runOnce 41 = .ok (.aload_n 0, 1) := by decide +kernel
theorem dX3_runOnce_42 : decode cX3_runOnce 42 = .ok (.invokevirtual 33, 3) := by decide +kernel
theorem dX3_runOnce_45 : decode cX3_runOnce 45 = .ok (.istore_n 3, 1) := by decide +kernel
theorem dX3_runOnce_46 : decode cX3_runOnce 46 = .ok (.iload_n 3, 1) := by decide +kernel
theorem dX3_runOnce_47 : decode cX3_runOnce 47 = .ok (.iconst (-1), 1) := by decide +kernel
theorem dX3_runOnce_48 : decode cX3_runOnce 48 = .ok (.if_icmp .ne 6, 3) := by decide +kernel
theorem dX3_runOnce_51 : decode cX3_runOnce 51 = .ok (.goto 27, 3) := by decide +kernel
theorem dX3_runOnce_54 : decode cX3_runOnce 54 = .ok (.aload_n 0, 1) := by decide +kernel
theorem dX3_runOnce_55 : decode cX3_runOnce 55 = .ok (.getfield 9, 3) := by decide +kernel
theorem dX3_runOnce_58 : decode cX3_runOnce 58 = .ok (.iload_n 3, 1) := by decide +kernel
theorem dX3_runOnce_59 : decode cX3_runOnce 59 = .ok (.iconst 1, 1) := by decide +kernel
theorem dX3_runOnce_60 : decode cX3_runOnce 60 = .ok (.bastore, 1) := by decide +kernel
theorem dX3_runOnce_61 : decode cX3_runOnce 61 = .ok (.aload_n 0, 1) := by decide +kernel
theorem dX3_runOnce_62 : decode cX3_runOnce 62 = .ok (.iload_n 3, 1) := by decide +kernel
theorem dX3_runOnce_63 : decode cX3_runOnce 63 = .ok (.invokevirtual 37, 3) := by decide +kernel
theorem dX3_runOnce_66 : decode cX3_runOnce 66 = .ok (.ifCond .eq 6, 3) := by decide +kernel
theorem dX3_runOnce_69 : decode cX3_runOnce 69 = .ok (.iinc 1 1, 3) := by decide +kernel
theorem dX3_runOnce_72 : decode cX3_runOnce 72 = .ok (.iinc 2 1, 3) := by decide +kernel
theorem dX3_runOnce_75 : decode cX3_runOnce 75 = .ok (.goto (-45), 3) := by decide +kernel
theorem dX3_runOnce_78 : decode cX3_runOnce 78 = .ok (.iload_n 1, 1) := by decide +kernel
theorem dX3_runOnce_79 : decode cX3_runOnce 79 = .ok (.ireturn, 1) := by decide +kernel
theorem dX3_nextToTry_0 : decode cX3_nextToTry 0 = .ok (.iconst (-1), 1) := by decide +kernel
theorem dX3_nextToTry_1 : decode cX3_nextToTry 1 = .ok (.istore_n 1, 1) := by decide +kernel
theorem dX3_nextToTry_2 : decode cX3_nextToTry 2 = .ok (.iconst 0, 1) := by decide +kernel
theorem dX3_nextToTry_3 : decode cX3_nextToTry 3 = .ok (.istore_n 2, 1) := by decide +kernel
theorem dX3_nextToTry_4 : decode cX3_nextToTry 4 = .ok (.iload_n 2, 1) := by decide +kernel
theorem dX3_nextToTry_5 : decode cX3_nextToTry 5 = .ok (.aload_n 0, 1) := by decide +kernel
theorem dX3_nextToTry_6 : decode cX3_nextToTry 6 = .ok (.getfield 15, 3) := by decide +kernel
theorem dX3_nextToTry_9 : decode cX3_nextToTry 9 = .ok (.getfield 27, 3) := by decide +kernel
theorem dX3_nextToTry_12 : decode cX3_nextToTry 12 = .ok (.if_icmp .ge 61, 3) := by decide +kernel
theorem dX3_nextToTry_15 : decode cX3_nextToTry 15 = .ok (.aload_n 0, 1) := by decide +kernel
theorem dX3_nextToTry_16 : decode cX3_nextToTry 16 = .ok (.getfield 15, 3) := by decide +kernel
theorem dX3_nextToTry_19 : decode cX3_nextToTry 19 = .ok (.iload_n 2, 1) := by decide +kernel
theorem dX3_nextToTry_20 : decode cX3_nextToTry 20 = .ok (.invokevirtual 41, 3) := by decide +kernel
theorem dX3_nextToTry_23 : decode cX3_nextToTry 23 = .ok (.ifCond .eq 44, 3) := by decide +kernel
theorem dX3_nextToTry_26 : decode cX3_nextToTry 26 = .ok (.aload_n 0, 1) := by decide +kernel
theorem dX3_nextToTry_27 : decode cX3_nextToTry 27 = .ok (.getfield 9, 3) := by decide +kernel
theorem dX3_nextToTry_30 : decode cX3_nextToTry 30 = .ok (.iload_n 2, 1) := by decide +kernel
theorem dX3_nextToTry_31 : decode cX3_nextToTry 31 = .ok (.baload, 1) := by decide +kernel
theorem dX3_nextToTry_32 : decode cX3_nextToTry 32 = .ok (.ifCond .ne 35, 3) := by decide +kernel
theorem dX3_nextToTry_35 : decode cX3_nextToTry 35 = .ok (.iload_n 1, 1) := by decide +kernel
theorem dX3_nextToTry_36 : decode cX3_nextToTry 36 = .ok (.iconst (-1), 1) := by decide +kernel
theorem dX3_nextToTry_37 : decode cX3_nextToTry 37 = .ok (.if_icmp .eq 28, 3) := by decide +kernel
theorem dX3_nextToTry_40 : decode cX3_nextToTry 40 = .ok (.aload_n 0, 1) := by decide +kernel
theorem dX3_nextToTry_41 : decode cX3_nextToTry 41 = .ok (.aload_n 0, 1) := by decide +kernel
theorem dX3_nextToTry_42 : decode cX3_nextToTry 42 = .ok (.getfield 15, 3) := by decide +kernel
theorem dX3_nextToTry_45 : decode cX3_nextToTry 45 = .ok (.getfield 44, 3) := by decide +kernel
theorem dX3_nextToTry_48 : decode cX3_nextToTry 48 = .ok (.iload_n 2, 1) := by decide +kernel
theorem dX3_nextToTry_49 : decode cX3_nextToTry 49 = .ok (.iaload, 1) := by decide +kernel
theorem dX3_nextToTry_50 : decode cX3_nextToTry 50 = .ok (.aload_n 0, 1) := by decide +kernel
theorem dX3_nextToTry_51 : decode cX3_nextToTry 51 = .ok (.getfield 15, 3) := by decide +kernel
theorem dX3_nextToTry_54 : decode cX3_nextToTry 54 = .ok (.getfield 44, 3) := by decide +kernel
theorem dX3_nextToTry_57 : decode cX3_nextToTry 57 = .ok (.iload_n 1, 1) := by decide +kernel
theorem dX3_nextToTry_58 : decode cX3_nextToTry 58 = .ok (.iaload, 1) := by decide +kernel
theorem dX3_nextToTry_59 : decode cX3_nextToTry 59 = .ok (.invokevirtual 48, 3) := by decide +kernel
theorem dX3_nextToTry_62 : decode cX3_nextToTry 62 = .ok (.ifCond .eq 5, 3) := by decide +kernel
theorem dX3_nextToTry_65 : decode cX3_nextToTry 65 = .ok (.iload_n 2, 1) := by decide +kernel
theorem dX3_nextToTry_66 : decode cX3_nextToTry 66 = .ok (.istore_n 1, 1) := by decide +kernel
theorem dX3_nextToTry_67 : decode cX3_nextToTry 67 = .ok (.iinc 2 1, 3) := by decide +kernel
theorem dX3_nextToTry_70 : decode cX3_nextToTry 70 = .ok (.goto (-66), 3) := by decide +kernel
theorem dX3_nextToTry_73 : decode cX3_nextToTry 73 = .ok (.iload_n 1, 1) := by decide +kernel
theorem dX3_nextToTry_74 : decode cX3_nextToTry 74 = .ok (.ireturn, 1) := by decide +kernel
theorem dX3_isServedBefore_0 : decode cX3_isServedBefore 0 = .ok (.aload_n 0, 1) := by decide +kernel
theorem dX3_isServedBefore_1 : decode cX3_isServedBefore 1 = .ok (.getfield 15, 3) := by decide +kernel
theorem dX3_isServedBefore_4 : decode cX3_isServedBefore 4 = .ok (.getfield 52, 3) := by decide +kernel
theorem dX3_isServedBefore_7 : decode cX3_isServedBefore 7 = .ok (.iload_n 1, 1) := by decide +kernel
theorem dX3_isServedBefore_8 : decode cX3_isServedBefore 8 = .ok (.iaload, 1) := by decide +kernel
theorem dX3_isServedBefore_9 : decode cX3_isServedBefore 9 = .ok (.aload_n 0, 1) := by decide +kernel
theorem dX3_isServedBefore_10 : decode cX3_isServedBefore 10 = .ok (.getfield 15, 3) := by decide +kernel
theorem dX3_isServedBefore_13 : decode cX3_isServedBefore 13 = .ok (.getfield 55, 3) := by decide +kernel
theorem dX3_isServedBefore_16 : decode cX3_isServedBefore 16 = .ok (.iload_n 2, 1) := by decide +kernel
theorem dX3_isServedBefore_17 : decode cX3_isServedBefore 17 = .ok (.iaload, 1) := by decide +kernel
theorem dX3_isServedBefore_18 : decode cX3_isServedBefore 18 = .ok (.imul, 1) := by decide +kernel
theorem dX3_isServedBefore_19 : decode cX3_isServedBefore 19 = .ok (.istore_n 3, 1) := by decide +kernel
theorem dX3_isServedBefore_20 : decode cX3_isServedBefore 20 = .ok (.aload_n 0, 1) := by decide +kernel
theorem dX3_isServedBefore_21 : decode cX3_isServedBefore 21 = .ok (.getfield 15, 3) := by decide +kernel
theorem dX3_isServedBefore_24 : decode cX3_isServedBefore 24 = .ok (.getfield 52, 3) := by decide +kernel
theorem dX3_isServedBefore_27 : decode cX3_isServedBefore 27 = .ok (.iload_n 2, 1) := by decide +kernel
theorem dX3_isServedBefore_28 : decode cX3_isServedBefore 28 = .ok (.iaload, 1) := by decide +kernel
theorem dX3_isServedBefore_29 : decode cX3_isServedBefore 29 = .ok (.aload_n 0, 1) := by decide +kernel
theorem dX3_isServedBefore_30 : decode cX3_isServedBefore 30 = .ok (.getfield 15, 3) := by decide +kernel
theorem dX3_isServedBefore_33 : decode cX3_isServedBefore 33 = .ok (.getfield 55, 3) := by decide +kernel
theorem dX3_isServedBefore_36 : decode cX3_isServedBefore 36 = .ok (.iload_n 1, 1) := by decide +kernel
theorem dX3_isServedBefore_37 : decode cX3_isServedBefore 37 = .ok (.iaload, 1) := by decide +kernel
theorem dX3_isServedBefore_38 : decode cX3_isServedBefore 38 = .ok (.imul, 1) := by decide +kernel
theorem dX3_isServedBefore_39 : decode cX3_isServedBefore 39 = .ok (.istore 4, 2) := by decide +kernel
theorem dX3_isServedBefore_41 : decode cX3_isServedBefore 41 = .ok (.iload_n 3, 1) := by decide +kernel
theorem dX3_isServedBefore_42 : decode cX3_isServedBefore 42 = .ok (.iload 4, 2) := by decide +kernel
theorem dX3_isServedBefore_44 : decode cX3_isServedBefore 44 = .ok (.if_icmp .lt 14, 3) := by decide +kernel
theorem dX3_isServedBefore_47 : decode cX3_isServedBefore 47 = .ok (.iload_n 3, 1) := by decide +kernel
theorem dX3_isServedBefore_48 : decode cX3_isServedBefore 48 = .ok (.iload 4, 2) := by decide +kernel
theorem dX3_isServedBefore_50 : decode cX3_isServedBefore 50 = .ok (.if_icmp .ne 12, 3) := by decide +kernel
theorem dX3_isServedBefore_53 : decode cX3_isServedBefore 53 = .ok (.iload_n 1, 1) := by decide +kernel
theorem dX3_isServedBefore_54 : decode cX3_isServedBefore 54 = .ok (.iload_n 2, 1) := by decide +kernel
theorem dX3_isServedBefore_55 : decode cX3_isServedBefore 55 = .ok (.if_icmp .ge 7, 3) := by decide +kernel
theorem dX3_isServedBefore_58 : decode cX3_isServedBefore 58 = .ok (.iconst 1, 1) := by decide +kernel
theorem dX3_isServedBefore_59 : decode cX3_isServedBefore 59 = .ok (.goto 4, 3) := by decide +kernel
theorem dX3_isServedBefore_62 : decode cX3_isServedBefore 62 = .ok (.iconst 0, 1) := by decide +kernel
theorem dX3_isServedBefore_63 : decode cX3_isServedBefore 63 = .ok (.ireturn, 1) := by decide +kernel
theorem dX3_tryToPlace_0 : decode cX3_tryToPlace 0 = .ok (.aload_n 0, 1) := by decide +kernel
theorem dX3_tryToPlace_1 : decode cX3_tryToPlace 1 = .ok (.getfield 15, 3) := by decide +kernel
theorem dX3_tryToPlace_4 : decode cX3_tryToPlace 4 = .ok (.aload_n 0, 1) := by decide +kernel
theorem dX3_tryToPlace_5 : decode cX3_tryToPlace 5 = .ok (.getfield 15, 3) := by decide +kernel
theorem dX3_tryToPlace_8 : decode cX3_tryToPlace 8 = .ok (.getfield 44, 3) := by decide +kernel
theorem dX3_tryToPlace_11 : decode cX3_tryToPlace 11 = .ok (.iload_n 1, 1) := by decide +kernel
theorem dX3_tryToPlace_12 : decode cX3_tryToPlace 12 = .ok (.iaload, 1) := by decide +kernel
theorem dX3_tryToPlace_13 : decode cX3_tryToPlace 13 = .ok (.invokevirtual 58, 3) := by decide +kernel
theorem dX3_tryToPlace_16 : decode cX3_tryToPlace 16 = .ok (.ifCond .ne 5, 3) := by decide +kernel
theorem dX3_tryToPlace_19 : decode cX3_tryToPlace 19 = .ok (.iconst 0, 1) := by decide +kernel
theorem dX3_tryToPlace_20 : decode cX3_tryToPlace 20 = .ok (.ireturn, 1) := by decide +kernel
theorem dX3_tryToPlace_21 : decode cX3_tryToPlace 21 = .ok (.aload_n 0, 1) := by decide +kernel
theorem dX3_tryToPlace_22 : decode cX3_tryToPlace 22 = .ok (.getfield 19, 3) := by decide +kernel
theorem dX3_tryToPlace_25 : decode cX3_tryToPlace 25 = .ok (.iload_n 1, 1) := by decide +kernel
theorem dX3_tryToPlace_26 : decode cX3_tryToPlace 26 = .ok (.invokevirtual 61, 3) := by decide +kernel
theorem dX3_tryToPlace_29 : decode cX3_tryToPlace 29 = .ok (.istore_n 2, 1) := by decide +kernel
theorem dX3_tryToPlace_30 : decode cX3_tryToPlace 30 = .ok (.iload_n 2, 1) := by decide +kernel
theorem dX3_tryToPlace_31 : decode cX3_tryToPlace 31 = .ok (.ifCond .eq 16, 3) := by decide +kernel
theorem dX3_tryToPlace_34 : decode cX3_tryToPlace 34 = .ok (.iload_n 2, 1) := by decide +kernel
theorem dX3_tryToPlace_35 : decode cX3_tryToPlace 35 = .ok (.iconst 1, 1) := by decide +kernel
theorem dX3_tryToPlace_36 : decode cX3_tryToPlace 36 = .ok (.isub, 1) := by decide +kernel
theorem dX3_tryToPlace_37 : decode cX3_tryToPlace 37 = .ok (.aload_n 0, 1) := by decide +kernel
theorem dX3_tryToPlace_38 : decode cX3_tryToPlace 38 = .ok (.getfield 15, 3) := by decide +kernel
theorem dX3_tryToPlace_41 : decode cX3_tryToPlace 41 = .ok (.getfield 67, 3) := by decide +kernel
theorem dX3_tryToPlace_44 : decode cX3_tryToPlace 44 = .ok (.if_icmp .le 5, 3) := by decide +kernel
theorem dX3_tryToPlace_47 : decode cX3_tryToPlace 47 = .ok (.iconst 0, 1) := by decide +kernel
theorem dX3_tryToPlace_48 : decode cX3_tryToPlace 48 = .ok (.ireturn, 1) := by decide +kernel
theorem dX3_tryToPlace_49 : decode cX3_tryToPlace 49 = .ok (.aload_n 0, 1) := by decide +kernel
theorem dX3_tryToPlace_50 : decode cX3_tryToPlace 50 = .ok (.iload_n 1, 1) := by decide +kernel
theorem dX3_tryToPlace_51 : decode cX3_tryToPlace 51 = .ok (.invokevirtual 70, 3) := by decide +kernel
theorem dX3_tryToPlace_54 : decode cX3_tryToPlace 54 = .ok (.iconst 1, 1) := by decide +kernel
theorem dX3_tryToPlace_55 : decode cX3_tryToPlace 55 = .ok (.ireturn, 1) := by decide +kernel
theorem dX3_placeAlongPath_0 : decode cX3_placeAlongPath 0 = .ok (.aload_n 0, 1) := by decide +kernel
theorem dX3_placeAlongPath_1 : decode cX3_placeAlongPath 1 = .ok (.getfield 15, 3) := by decide +kernel
theorem dX3_placeAlongPath_4 : decode cX3_placeAlongPath 4 = .ok (.iload_n 1, 1) := by decide +kernel
theorem dX3_placeAlongPath_5 : decode cX3_placeAlongPath 5 = .ok (.aload_n 0, 1) := by decide +kernel
theorem dX3_placeAlongPath_6 : decode cX3_placeAlongPath 6 = .ok (.getfield 19, 3) := by decide +kernel
theorem dX3_placeAlongPath_9 : decode cX3_placeAlongPath 9 = .ok (.getfield 74, 3) := by decide +kernel
theorem dX3_placeAlongPath_12 : decode cX3_placeAlongPath 12 = .ok (.iconst 0, 1) := by decide +kernel
theorem dX3_placeAlongPath_13 : decode cX3_placeAlongPath 13 = .ok (.iaload, 1) := by decide +kernel
theorem dX3_placeAlongPath_14 : decode cX3_placeAlongPath 14 = .ok (.invokevirtual 77, 3) := by decide +kernel
theorem dX3_placeAlongPath_17 : decode cX3_placeAlongPath 17 = .ok (.iconst 0, 1) := by decide +kernel
theorem dX3_placeAlongPath_18 : decode cX3_placeAlongPath 18 = .ok (.istore_n 2, 1) := by decide +kernel
theorem dX3_placeAlongPath_19 : decode cX3_placeAlongPath 19 = .ok (.iload_n 2, 1) := by decide +kernel
theorem dX3_placeAlongPath_20 : decode cX3_placeAlongPath 20 = .ok (.aload_n 0, 1) := by decide +kernel
theorem dX3_placeAlongPath_21 : decode cX3_placeAlongPath 21 = .ok (.getfield 19, 3) := by decide +kernel
theorem dX3_placeAlongPath_24 : decode cX3_placeAlongPath 24 = .ok (.getfield 81, 3) := by decide +kernel
theorem dX3_placeAlongPath_27 : decode cX3_placeAlongPath 27 = .ok (.iconst 1, 1) := by decide +kernel
theorem dX3_placeAlongPath_28 : decode cX3_placeAlongPath 28 = .ok (.isub, 1) := by decide +kernel
theorem dX3_placeAlongPath_29 : decode cX3_placeAlongPath 29 = .ok (.if_icmp .ge 52, 3) := by decide +kernel
theorem dX3_placeAlongPath_32 : decode cX3_placeAlongPath 32 = .ok (.aload_n 0, 1) := by decide +kernel
theorem dX3_placeAlongPath_33 : decode cX3_placeAlongPath 33 = .ok (.getfield 19, 3) := by decide +kernel
theorem dX3_placeAlongPath_36 : decode cX3_placeAlongPath 36 = .ok (.getfield 84, 3) := by decide +kernel
theorem dX3_placeAlongPath_39 : decode cX3_placeAlongPath 39 = .ok (.iload_n 2, 1) := by decide +kernel
theorem dX3_placeAlongPath_40 : decode cX3_placeAlongPath 40 = .ok (.iaload, 1) := by decide +kernel
theorem dX3_placeAlongPath_41 : decode cX3_placeAlongPath 41 = .ok (.istore_n 3, 1) := by decide +kernel
theorem dX3_placeAlongPath_42 : decode cX3_placeAlongPath 42 = .ok (.aload_n 0, 1) := by decide +kernel
theorem dX3_placeAlongPath_43 : decode cX3_placeAlongPath 43 = .ok (.getfield 19, 3) := by decide +kernel
theorem dX3_placeAlongPath_46 : decode cX3_placeAlongPath 46 = .ok (.getfield 74, 3) := by decide +kernel
theorem dX3_placeAlongPath_49 : decode cX3_placeAlongPath 49 = .ok (.iload_n 2, 1) := by decide +kernel
theorem dX3_placeAlongPath_50 : decode cX3_placeAlongPath 50 = .ok (.iconst 1, 1) := by decide +kernel
theorem dX3_placeAlongPath_51 : decode cX3_placeAlongPath 51 = .ok (.iadd, 1) := by decide +kernel
theorem dX3_placeAlongPath_52 : decode cX3_placeAlongPath 52 = .ok (.iaload, 1) := by decide +kernel
theorem dX3_placeAlongPath_53 : decode cX3_placeAlongPath 53 = .ok (.istore 4, 2) := by decide +kernel
theorem dX3_placeAlongPath_55 : decode cX3_placeAlongPath 55 = .ok (.aload_n 0, 1) := by decide +kernel
theorem dX3_placeAlongPath_56 : decode cX3_placeAlongPath 56 = .ok (.getfield 15, 3) := by decide +kernel
theorem dX3_placeAlongPath_59 : decode cX3_placeAlongPath 59 = .ok (.iload_n 3, 1) := by decide +kernel
theorem dX3_placeAlongPath_60 : decode cX3_placeAlongPath 60 = .ok (.iload 4, 2) := by decide +kernel
theorem dX3_placeAlongPath_62 : decode cX3_placeAlongPath 62 = .ok (.invokevirtual 87, 3) := by decide +kernel
theorem dX3_placeAlongPath_65 : decode cX3_placeAlongPath 65 = .ok (.aload_n 0, 1) := by decide +kernel
theorem dX3_placeAlongPath_66 : decode cX3_placeAlongPath 66 = .ok (.getfield 23, 3) := by decide +kernel
theorem dX3_placeAlongPath_69 : decode cX3_placeAlongPath 69 = .ok (.iload_n 3, 1) := by decide +kernel
theorem dX3_placeAlongPath_70 : decode cX3_placeAlongPath 70 = .ok (.iload 4, 2) := by decide +kernel
theorem dX3_placeAlongPath_72 : decode cX3_placeAlongPath 72 = .ok (.invokevirtual 90, 3) := by decide +kernel
theorem dX3_placeAlongPath_75 : decode cX3_placeAlongPath 75 = .ok (.iinc 2 1, 3) := by decide +kernel
theorem dX3_placeAlongPath_78 : decode cX3_placeAlongPath 78 = .ok (.goto (-59), 3) := by decide +kernel
theorem dX3_placeAlongPath_81 : decode cX3_placeAlongPath 81 = .ok (.return_, 1) := by decide +kernel
