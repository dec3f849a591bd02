theorem dX0_init_0 : decode cX0_init 0 = .ok (.aload_n 0, 1) := by decide +kernel
theorem dX0_init_1 : decode cX0_init 1 = .ok (.invokespecial 3, 3) := by decide +kernel
theorem dX0_init_4 : decode cX0_init 4 = .ok (.aload_n 0, 1) := by decide +kernel
theorem dX0_init_5 : decode cX0_init 5 = .ok (.bipush 40, 2) := by decide +kernel
theorem dX0_init_7 : decode cX0_init 7 = .ok (.newarray .int, 2) := by decide +kernel
theorem dX0_init_9 : decode cX0_init 9 = .ok (.putfield 9, 3) := by decide +kernel
theorem dX0_init_12 : decode cX0_init 12 = .ok (.aload_n 0, 1) := by decide +kernel
theorem dX0_init_13 : decode cX0_init 13 = .ok (.bipush 40, 2) := by decide +kernel
theorem dX0_init_15 : decode cX0_init 15 = .ok (.newarray .int, 2) := by decide +kernel
theorem dX0_init_17 : decode cX0_init 17 = .ok (.putfield 15, 3) := by decide +kernel
theorem dX0_init_20 : decode cX0_init 20 = .ok (.aload_n 0, 1) := by decide +kernel
theorem dX0_init_21 : decode cX0_init 21 = .ok (.bipush 12, 2) := by decide +kernel
theorem dX0_init_23 : decode cX0_init 23 = .ok (.newarray .int, 2) := by decide +kernel
theorem dX0_init_25 : decode cX0_init 25 = .ok (.putfield 18, 3) := by decide +kernel
theorem dX0_init_28 : decode cX0_init 28 = .ok (.aload_n 0, 1) := by decide +kernel
theorem dX0_init_29 : decode cX0_init 29 = .ok (.iconst 4, 1) := by decide +kernel
theorem dX0_init_30 : decode cX0_init 30 = .ok (.newarray .int, 2) := by decide +kernel
theorem dX0_init_32 : decode cX0_init 32 = .ok (.putfield 21, 3) := by decide +kernel
theorem dX0_init_35 : decode cX0_init 35 = .ok (.aload_n 0, 1) := by decide +kernel
theorem dX0_init_36 : decode cX0_init 36 = .ok (.bipush 16, 2) := by decide +kernel
theorem dX0_init_38 : decode cX0_init 38 = .ok (.newarray .int, 2) := by decide +kernel
theorem dX0_init_40 : decode cX0_init 40 = .ok (.putfield 24, 3) := by decide +kernel
theorem dX0_init_43 : decode cX0_init 43 = .ok (.aload_n 0, 1) := by decide +kernel
theorem dX0_init_44 : decode cX0_init 44 = .ok (.bipush 16, 2) := by decide +kernel
theorem dX0_init_46 : decode cX0_init 46 = .ok (.newarray .boolean, 2) := by decide +kernel
theorem dX0_init_48 : decode cX0_init 48 = .ok (.putfield 27, 3) := by decide +kernel
theorem dX0_init_51 : decode cX0_init 51 = .ok (.aload_n 0, 1) := by decide +kernel
theorem dX0_init_52 : decode cX0_init 52 = .ok (.bipush 16, 2) := by decide +kernel
theorem dX0_init_54 : decode cX0_init 54 = .ok (.newarray .int, 2) := by decide +kernel
theorem dX0_init_56 : decode cX0_init 56 = .ok (.putfield 31, 3) := by decide +kernel
theorem dX0_init_59 : decode cX0_init 59 = .ok (.aload_n 0, 1) := by decide +kernel
theorem dX0_init_60 : decode cX0_init 60 = .ok (.bipush 16, 2) := by decide +kernel
theorem dX0_init_62 : decode cX0_init 62 = .ok (.newarray .int, 2) := by decide +kernel
theorem dX0_init_64 : decode cX0_init 64 = .ok (.putfield 34, 3) := by decide +kernel
theorem dX0_init_67 : decode cX0_init 67 = .ok (.aload_n 0, 1) := by decide +kernel
theorem dX0_init_68 : decode cX0_init 68 = .ok (.aload_n 1, 1) := by decide +kernel
theorem dX0_init_69 : decode cX0_init 69 = .ok (.putfield 37, 3) := by decide +kernel
theorem dX0_init_72 : decode cX0_init 72 = .ok (.return_, 1) := by decide +kernel
theorem dX0_greatest_0 : decode cX0_greatest 0 = .ok (.aload_n 0, 1) := by decide +kernel
theorem dX0_greatest_1 : decode cX0_greatest 1 = .ok (.iload_n 1, 1) := by decide +kernel
theorem dX0_greatest_2 : decode cX0_greatest 2 = .ok (.invokevirtual 41, 3) := by decide +kernel
theorem dX0_greatest_5 : decode cX0_greatest 5 = .ok (.aload_n 0, 1) := by decide +kernel
theorem dX0_greatest_6 : decode cX0_greatest 6 = .ok (.getfield 37, 3) := by decide +kernel
theorem dX0_greatest_9 : decode cX0_greatest 9 = .ok (.invokevirtual 45, 3) := by decide +kernel
theorem dX0_greatest_12 : decode cX0_greatest 12 = .ok (.istore_n 2, 1) := by decide +kernel
theorem dX0_greatest_13 : decode cX0_greatest 13 = .ok (.iconst 0, 1) := by decide +kernel
theorem dX0_greatest_14 : decode cX0_greatest 14 = .ok (.istore_n 3, 1) := by decide +kernel
theorem dX0_greatest_15 : decode cX0_greatest 15 = .ok (.iload_n 3, 1) := by decide +kernel
theorem dX0_greatest_16 : decode cX0_greatest 16 = .ok (.aload_n 0, 1) := by decide +kernel
theorem dX0_greatest_17 : decode cX0_greatest 17 = .ok (.getfield 37, 3) := by decide +kernel
theorem dX0_greatest_20 : decode cX0_greatest 20 = .ok (.getfield 51, 3) := by decide +kernel
theorem dX0_greatest_23 : decode cX0_greatest 23 = .ok (.if_icmp .ge 22, 3) := by decide +kernel
theorem dX0_greatest_26 : decode cX0_greatest 26 = .ok (.aload_n 0, 1) := by decide +kernel
theorem dX0_greatest_27 : decode cX0_greatest 27 = .ok (.invokevirtual 55, 3) := by decide +kernel
theorem dX0_greatest_30 : decode cX0_greatest 30 = .ok (.ifCond .ne 6, 3) := by decide +kernel
theorem dX0_greatest_33 : decode cX0_greatest 33 = .ok (.goto 12, 3) := by decide +kernel
theorem dX0_greatest_36 : decode cX0_greatest 36 = .ok (.iinc 2 1, 3) := by decide +kernel
theorem dX0_greatest_39 : decode cX0_greatest 39 = .ok (.iinc 3 1, 3) := by decide +kernel
theorem dX0_greatest_42 : decode cX0_greatest 42 = .ok (.goto (-27), 3) := by decide +kernel
theorem dX0_greatest_45 : decode cX0_greatest 45 = .ok (.iload_n 2, 1) := by decide +kernel
theorem dX0_greatest_46 : decode cX0_greatest 46 = .ok (.ireturn, 1) := by decide +kernel
theorem dX0_copyAssignment_0 : decode cX0_copyAssignment 0 = .ok (.iconst 0, 1) := by decide +kernel
theorem dX0_copyAssignment_1 : decode cX0_copyAssignment 1 = .ok (.istore_n 2, 1) := by decide +kernel
theorem dX0_copyAssignment_2 : decode cX0_copyAssignment 2 = .ok (.iload_n 2, 1) := by decide +kernel
theorem dX0_copyAssignment_3 : decode cX0_copyAssignment 3 = .ok (.aload_n 0, 1) := by decide +kernel
theorem dX0_copyAssignment_4 : decode cX0_copyAssignment 4 = .ok (.getfield 37, 3) := by decide +kernel
theorem dX0_copyAssignment_7 : decode cX0_copyAssignment 7 = .ok (.getfield 59, 3) := by decide +kernel
theorem dX0_copyAssignment_10 : decode cX0_copyAssignment 10 = .ok (.if_icmp .ge 24, 3) := by decide +kernel
theorem dX0_copyAssignment_13 : decode cX0_copyAssignment 13 = .ok (.aload_n 0, 1) := by decide +kernel
theorem dX0_copyAssignment_14 : decode cX0_copyAssignment 14 = .ok (.getfield 18, 3) := by decide +kernel
theorem dX0_copyAssignment_17 : decode cX0_copyAssignment 17 = .ok (.iload_n 2, 1) := by decide +kernel
theorem dX0_copyAssignment_18 : decode cX0_copyAssignment 18 = .ok (.aload_n 0, 1) := by decide +kernel
theorem dX0_copyAssignment_19 : decode cX0_copyAssignment 19 = .ok (.getfield 37, 3) := by decide +kernel
theorem dX0_copyAssignment_22 : decode cX0_copyAssignment 22 = .ok (.getfield 62, 3) := by decide +kernel
theorem dX0_copyAssignment_25 : decode cX0_copyAssignment 25 = .ok (.iload_n 2, 1) := by decide +kernel
theorem dX0_copyAssignment_26 : decode cX0_copyAssignment 26 = .ok (.iaload, 1) := by decide +kernel
theorem dX0_copyAssignment_27 : decode cX0_copyAssignment 27 = .ok (.iastore, 1) := by decide +kernel
theorem dX0_copyAssignment_28 : decode cX0_copyAssignment 28 = .ok (.iinc 2 1, 3) := by decide +kernel
theorem dX0_copyAssignment_31 : decode cX0_copyAssignment 31 = .ok (.goto (-29), 3) := by decide +kernel
theorem dX0_copyAssignment_34 : decode cX0_copyAssignment 34 = .ok (.iconst 0, 1) := by decide +kernel
theorem dX0_copyAssignment_35 : decode cX0_copyAssignment 35 = .ok (.istore_n 2, 1) := by decide +kernel
theorem dX0_copyAssignment_36 : decode cX0_copyAssignment 36 = .ok (.iload_n 2, 1) := by decide +kernel
theorem dX0_copyAssignment_37 : decode cX0_copyAssignment 37 = .ok (.iconst 4, 1) := by decide +kernel
theorem dX0_copyAssignment_38 : decode cX0_copyAssignment 38 = .ok (.if_icmp .ge 24, 3) := by decide +kernel
theorem dX0_copyAssignment_41 : decode cX0_copyAssignment 41 = .ok (.aload_n 0, 1) := by decide +kernel
theorem dX0_copyAssignment_42 : decode cX0_copyAssignment 42 = .ok (.getfield 21, 3) := by decide +kernel
theorem dX0_copyAssignment_45 : decode cX0_copyAssignment 45 = .ok (.iload_n 2, 1) := by decide +kernel
theorem dX0_copyAssignment_46 : decode cX0_copyAssignment 46 = .ok (.aload_n 0, 1) := by decide +kernel
theorem dX0_copyAssignment_47 : decode cX0_copyAssignment 47 = .ok (.getfield 37, 3) := by decide +kernel
theorem dX0_copyAssignment_50 : decode cX0_copyAssignment 50 = .ok (.getfield 63, 3) := by decide +kernel
theorem dX0_copyAssignment_53 : decode cX0_copyAssignment 53 = .ok (.iload_n 2, 1) := by decide +kernel
theorem dX0_copyAssignment_54 : decode cX0_copyAssignment 54 = .ok (.iaload, 1) := by decide +kernel
theorem dX0_copyAssignment_55 : decode cX0_copyAssignment 55 = .ok (.iastore, 1) := by decide +kernel
theorem dX0_copyAssignment_56 : decode cX0_copyAssignment 56 = .ok (.iinc 2 1, 3) := by decide +kernel
theorem dX0_copyAssignment_59 : decode cX0_copyAssignment 59 = .ok (.goto (-23), 3) := by decide +kernel
theorem dX0_copyAssignment_62 : decode cX0_copyAssignment 62 = .ok (.iconst 0, 1) := by decide +kernel
theorem dX0_copyAssignment_63 : decode cX0_copyAssignment 63 = .ok (.istore_n 2, 1) := by decide +kernel
theorem dX0_copyAssignment_64 : decode cX0_copyAssignment 64 = .ok (.iload_n 2, 1) := by decide +kernel
theorem dX0_copyAssignment_65 : decode cX0_copyAssignment 65 = .ok (.aload_n 0, 1) := by decide +kernel
theorem dX0_copyAssignment_66 : decode cX0_copyAssignment 66 = .ok (.getfield 37, 3) := by decide +kernel
theorem dX0_copyAssignment_69 : decode cX0_copyAssignment 69 = .ok (.getfield 51, 3) := by decide +kernel
theorem dX0_copyAssignment_72 : decode cX0_copyAssignment 72 = .ok (.if_icmp .ge 50, 3) := by decide +kernel
theorem dX0_copyAssignment_75 : decode cX0_copyAssignment 75 = .ok (.aload_n 0, 1) := by decide +kernel
theorem dX0_copyAssignment_76 : decode cX0_copyAssignment 76 = .ok (.getfield 9, 3) := by decide +kernel
theorem dX0_copyAssignment_79 : decode cX0_copyAssignment 79 = .ok (.iload_n 2, 1) := by decide +kernel
theorem dX0_copyAssignment_80 : decode cX0_copyAssignment 80 = .ok (.aload_n 0, 1) := by decide +kernel
theorem dX0_copyAssignment_81 : decode cX0_copyAssignment 81 = .ok (.iload_n 2, 1) := by decide +kernel
theorem dX0_copyAssignment_82 : decode cX0_copyAssignment 82 = .ok (.invokevirtual 66, 3) := by decide +kernel
theorem dX0_copyAssignment_85 : decode cX0_copyAssignment 85 = .ok (.iastore, 1) := by decide +kernel
theorem dX0_copyAssignment_86 : decode cX0_copyAssignment 86 = .ok (.aload_n 0, 1) := by decide +kernel
theorem dX0_copyAssignment_87 : decode cX0_copyAssignment 87 = .ok (.getfield 15, 3) := by decide +kernel
theorem dX0_copyAssignment_90 : decode cX0_copyAssignment 90 = .ok (.iload_n 2, 1) := by decide +kernel
theorem dX0_copyAssignment_91 : decode cX0_copyAssignment 91 = .ok (.iload_n 2, 1) := by decide +kernel
theorem dX0_copyAssignment_92 : decode cX0_copyAssignment 92 = .ok (.iload_n 1, 1) := by decide +kernel
theorem dX0_copyAssignment_93 : decode cX0_copyAssignment 93 = .ok (.if_icmp .ne 13, 3) := by decide +kernel
theorem dX0_copyAssignment_96 : decode cX0_copyAssignment 96 = .ok (.aload_n 0, 1) := by decide +kernel
theorem dX0_copyAssignment_97 : decode cX0_copyAssignment 97 = .ok (.getfield 37, 3) := by decide +kernel
theorem dX0_copyAssignment_100 : decode cX0_copyAssignment 100 = .ok (.invokevirtual 70, 3) := by decide +kernel
theorem dX0_copyAssignment_103 : decode cX0_copyAssignment 103 = .ok (.goto 12, 3) := by decide +kernel
theorem dX0_copyAssignment_106 : decode cX0_copyAssignment 106 = .ok (.aload_n 0, 1) := by decide +kernel
theorem dX0_copyAssignment_107 : decode cX0_copyAssignment 107 = .ok (.getfield 37, 3) := by decide +kernel
theorem dX0_copyAssignment_110 : decode cX0_copyAssignment 110 = .ok (.getfield 73, 3) := by decide +kernel
theorem dX0_copyAssignment_113 : decode cX0_copyAssignment 113 = .ok (.iload_n 2, 1) := by decide +kernel
theorem dX0_copyAssignment_114 : decode cX0_copyAssignment 114 = .ok (.iaload, 1) := by decide +kernel
theorem dX0_copyAssignment_115 : decode cX0_copyAssignment 115 = .ok (.iastore, 1) := by decide +kernel
theorem dX0_copyAssignment_116 : decode cX0_copyAssignment 116 = .ok (.iinc 2 1, 3) := by decide +kernel
theorem dX0_copyAssignment_119 : decode cX0_copyAssignment 119 = .ok (.goto (-55), 3) := by decide +kernel
theorem dX0_copyAssignment_122 : decode cX0_copyAssignment 122 = .ok (.return_, 1) := by decide +kernel
theorem dX0_startOf_0 : decode cX0_startOf 0 = .ok (.aload_n 0, 1) := by decide +kernel
theorem dX0_startOf_1 : decode cX0_startOf 1 = .ok (.getfield 37, 3) := by decide +kernel
theorem dX0_startOf_4 : decode cX0_startOf 4 = .ok (.iload_n 1, 1) := by decide +kernel
theorem dX0_startOf_5 : decode cX0_startOf 5 = .ok (.invokevirtual 74, 3) := by decide +kernel
theorem dX0_startOf_8 : decode cX0_startOf 8 = .ok (.ifCond .eq 5, 3) := by decide +kernel
theorem dX0_startOf_11 : decode cX0_startOf 11 = .ok (.iconst (-1), 1) := by decide +kernel
theorem dX0_startOf_12 : decode cX0_startOf 12 = .ok (.ireturn, 1) := by decide +kernel
theorem dX0_startOf_13 : decode cX0_startOf 13 = .ok (.aload_n 0, 1) := by decide +kernel
theorem dX0_startOf_14 : decode cX0_startOf 14 = .ok (.getfield 37, 3) := by decide +kernel
theorem dX0_startOf_17 : decode cX0_startOf 17 = .ok (.iload_n 1, 1) := by decide +kernel
theorem dX0_startOf_18 : decode cX0_startOf 18 = .ok (.invokevirtual 78, 3) := by decide +kernel
theorem dX0_startOf_21 : decode cX0_startOf 21 = .ok (.ifCond .eq 17, 3) := by decide +kernel
theorem dX0_startOf_24 : decode cX0_startOf 24 = .ok (.iconst 4, 1) := by decide +kernel
theorem dX0_startOf_25 : decode cX0_startOf 25 = .ok (.aload_n 0, 1) := by decide +kernel
theorem dX0_startOf_26 : decode cX0_startOf 26 = .ok (.getfield 37, 3) := by decide +kernel
theorem dX0_startOf_29 : decode cX0_startOf 29 = .ok (.getfield 81, 3) := by decide +kernel
theorem dX0_startOf_32 : decode cX0_startOf 32 = .ok (.iload_n 1, 1) := by decide +kernel
theorem dX0_startOf_33 : decode cX0_startOf 33 = .ok (.iaload, 1) := by decide +kernel
theorem dX0_startOf_34 : decode cX0_startOf 34 = .ok (.iadd, 1) := by decide +kernel
theorem dX0_startOf_35 : decode cX0_startOf 35 = .ok (.goto 12, 3) := by decide +kernel
theorem dX0_startOf_38 : decode cX0_startOf 38 = .ok (.aload_n 0, 1) := by decide +kernel
theorem dX0_startOf_39 : decode cX0_startOf 39 = .ok (.getfield 37, 3) := by decide +kernel
theorem dX0_startOf_42 : decode cX0_startOf 42 = .ok (.getfield 84, 3) := by decide +kernel
theorem dX0_startOf_45 : decode cX0_startOf 45 = .ok (.iload_n 1, 1) := by decide +kernel
theorem dX0_startOf_46 : decode cX0_startOf 46 = .ok (.iaload, 1) := by decide +kernel
theorem dX0_startOf_47 : decode cX0_startOf 47 = .ok (.ireturn, 1) := by decide +kernel
theorem dX0_augment_0 : decode cX0_augment 0 = .ok (.aload_n 0, 1) := by decide +kernel
theorem dX0_augment_1 : decode cX0_augment 1 = .ok (.invokevirtual 87, 3) := by decide +kernel
theorem dX0_augment_4 : decode cX0_augment 4 = .ok (.iconst 0, 1) := by decide +kernel
theorem dX0_augment_5 : decode cX0_augment 5 = .ok (.istore_n 1, 1) := by decide +kernel
theorem dX0_augment_6 : decode cX0_augment 6 = .ok (.iload_n 1, 1) := by decide +kernel
theorem dX0_augment_7 : decode cX0_augment 7 = .ok (.aload_n 0, 1) := by decide +kernel
theorem dX0_augment_8 : decode cX0_augment 8 = .ok (.getfield 90, 3) := by decide +kernel
theorem dX0_augment_11 : decode cX0_augment 11 = .ok (.if_icmp .ge 38, 3) := by decide +kernel
theorem dX0_augment_14 : decode cX0_augment 14 = .ok (.iload_n 1, 1) := by decide +kernel
theorem dX0_augment_15 : decode cX0_augment 15 = .ok (.bipush 16, 2) := by decide +kernel
theorem dX0_augment_17 : decode cX0_augment 17 = .ok (.if_icmp .ge 32, 3) := by decide +kernel
theorem dX0_augment_20 : decode cX0_augment 20 = .ok (.aload_n 0, 1) := by decide +kernel
theorem dX0_augment_21 : decode cX0_augment 21 = .ok (.aload_n 0, 1) := by decide +kernel
theorem dX0_augment_22 : decode cX0_augment 22 = .ok (.getfield 24, 3) := by decide +kernel
theorem dX0_augment_25 : decode cX0_augment 25 = .ok (.iload_n 1, 1) := by decide +kernel
theorem dX0_augment_26 : decode cX0_augment 26 = .ok (.iaload, 1) := by decide +kernel
theorem dX0_augment_27 : decode cX0_augment 27 = .ok (.invokevirtual 93, 3) := by decide +kernel
theorem dX0_augment_30 : decode cX0_augment 30 = .ok (.istore_n 2, 1) := by decide +kernel
theorem dX0_augment_31 : decode cX0_augment 31 = .ok (.iload_n 2, 1) := by decide +kernel
theorem dX0_augment_32 : decode cX0_augment 32 = .ok (.iconst (-1), 1) := by decide +kernel
theorem dX0_augment_33 : decode cX0_augment 33 = .ok (.if_icmp .eq 10, 3) := by decide +kernel
theorem dX0_augment_36 : decode cX0_augment 36 = .ok (.aload_n 0, 1) := by decide +kernel
theorem dX0_augment_37 : decode cX0_augment 37 = .ok (.iload_n 2, 1) := by decide +kernel
theorem dX0_augment_38 : decode cX0_augment 38 = .ok (.invokevirtual 96, 3) := by decide +kernel
theorem dX0_augment_41 : decode cX0_augment 41 = .ok (.iconst 1, 1) := by decide +kernel
theorem dX0_augment_42 : decode cX0_augment 42 = .ok (.ireturn, 1) := by decide +kernel
theorem dX0_augment_43 : decode cX0_augment 43 = .ok (.iinc 1 1, 3) := by decide +kernel
theorem dX0_augment_46 : decode cX0_augment 46 = .ok (.goto (-40), 3) := by decide +kernel
theorem dX0_augment_49 : decode cX0_augment 49 = .ok (.iconst 0, 1) := by decide +kernel
theorem dX0_augment_50 : decode cX0_augment 50 = .ok (.ireturn, 1) := by decide +kernel
theorem dX0_startAtGroups_0 : decode cX0_startAtGroups 0 = .ok (.aload_n 0, 1) := by decide +kernel
theorem dX0_startAtGroups_1 : decode cX0_startAtGroups 1 = .ok (.iconst 0, 1) := by decide +kernel
theorem dX0_startAtGroups_2 : decode cX0_startAtGroups 2 = .ok (.putfield 90, 3) := by decide +kernel
theorem dX0_startAtGroups_5 : decode cX0_startAtGroups 5 = .ok (.iconst 0, 1) := by decide +kernel
theorem dX0_startAtGroups_6 : decode cX0_startAtGroups 6 = .ok (.istore_n 1, 1) := by decide +kernel
theorem dX0_startAtGroups_7 : decode cX0_startAtGroups 7 = .ok (.iload_n 1, 1) := by decide +kernel
theorem dX0_startAtGroups_8 : decode cX0_startAtGroups 8 = .ok (.bipush 16, 2) := by decide +kernel
theorem dX0_startAtGroups_10 : decode cX0_startAtGroups 10 = .ok (.if_icmp .ge 16, 3) := by decide +kernel
theorem dX0_startAtGroups_13 : decode cX0_startAtGroups 13 = .ok (.aload_n 0, 1) := by decide +kernel
theorem dX0_startAtGroups_14 : decode cX0_startAtGroups 14 = .ok (.getfield 27, 3) := by decide +kernel
theorem dX0_startAtGroups_17 : decode cX0_startAtGroups 17 = .ok (.iload_n 1, 1) := by decide +kernel
theorem dX0_startAtGroups_18 : decode cX0_startAtGroups 18 = .ok (.iconst 0, 1) := by decide +kernel
theorem dX0_startAtGroups_19 : decode cX0_startAtGroups 19 = .ok (.bastore, 1) := by decide +kernel
theorem dX0_startAtGroups_20 : decode cX0_startAtGroups 20 = .ok (.iinc 1 1, 3) := by decide +kernel
theorem dX0_startAtGroups_23 : decode cX0_startAtGroups 23 = .ok (.goto (-16), 3) := by decide +kernel
theorem dX0_startAtGroups_26 : decode cX0_startAtGroups 26 = .ok (.iconst 0, 1) := by decide +kernel
theorem dX0_startAtGroups_27 : decode cX0_startAtGroups 27 = .ok (.istore_n 1, 1) := by decide +kernel
theorem dX0_startAtGroups_28 : decode cX0_startAtGroups 28 = .ok (.iload_n 1, 1) := by decide +kernel
theorem dX0_startAtGroups_29 : decode cX0_startAtGroups 29 = .ok (.iconst 4, 1) := by decide +kernel
theorem dX0_startAtGroups_30 : decode cX0_startAtGroups 30 = .ok (.if_icmp .ge 34, 3) := by decide +kernel
theorem dX0_startAtGroups_33 : decode cX0_startAtGroups 33 = .ok (.aload_n 0, 1) := by decide +kernel
theorem dX0_startAtGroups_34 : decode cX0_startAtGroups 34 = .ok (.getfield 21, 3) := by decide +kernel
theorem dX0_startAtGroups_37 : decode cX0_startAtGroups 37 = .ok (.iload_n 1, 1) := by decide +kernel
theorem dX0_startAtGroups_38 : decode cX0_startAtGroups 38 = .ok (.iaload, 1) := by decide +kernel
theorem dX0_startAtGroups_39 : decode cX0_startAtGroups 39 = .ok (.aload_n 0, 1) := by decide +kernel
theorem dX0_startAtGroups_40 : decode cX0_startAtGroups 40 = .ok (.getfield 37, 3) := by decide +kernel
theorem dX0_startAtGroups_43 : decode cX0_startAtGroups 43 = .ok (.getfield 99, 3) := by decide +kernel
theorem dX0_startAtGroups_46 : decode cX0_startAtGroups 46 = .ok (.iload_n 1, 1) := by decide +kernel
theorem dX0_startAtGroups_47 : decode cX0_startAtGroups 47 = .ok (.iaload, 1) := by decide +kernel
theorem dX0_startAtGroups_48 : decode cX0_startAtGroups 48 = .ok (.if_icmp .ge 10, 3) := by decide +kernel
theorem dX0_startAtGroups_51 : decode cX0_startAtGroups 51 = .ok (.aload_n 0, 1) := by decide +kernel
theorem dX0_startAtGroups_52 : decode cX0_startAtGroups 52 = .ok (.iload_n 1, 1) := by decide +kernel
theorem dX0_startAtGroups_53 : decode cX0_startAtGroups 53 = .ok (.iconst (-1), 1) := by decide +kernel
theorem dX0_startAtGroups_54 : decode cX0_startAtGroups 54 = .ok (.iconst (-1), 1) := by decide +kernel
theorem dX0_startAtGroups_55 : decode cX0_startAtGroups 55 = .ok (.invokevirtual 102, 3) := by decide +kernel
theorem dX0_startAtGroups_58 : decode cX0_startAtGroups 58 = .ok (.iinc 1 1, 3) := by decide +kernel
theorem dX0_startAtGroups_61 : decode cX0_startAtGroups 61 = .ok (.goto (-33), 3) := by decide +kernel
theorem dX0_startAtGroups_64 : decode cX0_startAtGroups 64 = .ok (.return_, 1) := by decide +kernel
theorem dX0_reach_0 : decode cX0_reach 0 = .ok (.aload_n 0, 1) := by decide +kernel
theorem dX0_reach_1 : decode cX0_reach 1 = .ok (.getfield 27, 3) := by decide +kernel
theorem dX0_reach_4 : decode cX0_reach 4 = .ok (.iload_n 1, 1) := by decide +kernel
theorem dX0_reach_5 : decode cX0_reach 5 = .ok (.baload, 1) := by decide +kernel
theorem dX0_reach_6 : decode cX0_reach 6 = .ok (.ifCond .ne 53, 3) := by decide +kernel
theorem dX0_reach_9 : decode cX0_reach 9 = .ok (.aload_n 0, 1) := by decide +kernel
theorem dX0_reach_10 : decode cX0_reach 10 = .ok (.getfield 90, 3) := by decide +kernel
theorem dX0_reach_13 : decode cX0_reach 13 = .ok (.bipush 16, 2) := by decide +kernel
theorem dX0_reach_15 : decode cX0_reach 15 = .ok (.if_icmp .ge 44, 3) := by decide +kernel
theorem dX0_reach_18 : decode cX0_reach 18 = .ok (.aload_n 0, 1) := by decide +kernel
theorem dX0_reach_19 : decode cX0_reach 19 = .ok (.getfield 27, 3) := by decide +kernel
theorem dX0_reach_22 : decode cX0_reach 22 = .ok (.iload_n 1, 1) := by decide +kernel
theorem dX0_reach_23 : decode cX0_reach 23 = .ok (.iconst 1, 1) := by decide +kernel
theorem dX0_reach_24 : decode cX0_reach 24 = .ok (.bastore, 1) := by decide +kernel
theorem dX0_reach_25 : decode cX0_reach 25 = .ok (.aload_n 0, 1) := by decide +kernel
theorem dX0_reach_26 : decode cX0_reach 26 = .ok (.getfield 31, 3) := by decide +kernel
theorem dX0_reach_29 : decode cX0_reach 29 = .ok (.iload_n 1, 1) := by decide +kernel
theorem dX0_reach_30 : decode cX0_reach 30 = .ok (.iload_n 2, 1) := by decide +kernel
theorem dX0_reach_31 : decode cX0_reach 31 = .ok (.iastore, 1) := by decide +kernel
theorem dX0_reach_32 : decode cX0_reach 32 = .ok (.aload_n 0, 1) := by decide +kernel
theorem dX0_reach_33 : decode cX0_reach 33 = .ok (.getfield 34, 3) := by decide +kernel
theorem dX0_reach_36 : decode cX0_reach 36 = .ok (.iload_n 1, 1) := by decide +kernel
theorem dX0_reach_37 : decode cX0_reach 37 = .ok (.iload_n 3, 1) := by decide +kernel
theorem dX0_reach_38 : decode cX0_reach 38 = .ok (.iastore, 1) := by decide +kernel
theorem dX0_reach_39 : decode cX0_reach 39 = .ok (.aload_n 0, 1) := by decide +kernel
theorem dX0_reach_40 : decode cX0_reach 40 = .ok (.getfield 24, 3) := by decide +kernel
theorem dX0_reach_43 : decode cX0_reach 43 = .ok (.aload_n 0, 1) := by decide +kernel
theorem dX0_reach_44 : decode cX0_reach 44 = .ok (.getfield 90, 3) := by decide +kernel
theorem dX0_reach_47 : decode cX0_reach 47 = .ok (.iload_n 1, 1) := by decide +kernel
theorem dX0_reach_48 : decode cX0_reach 48 = .ok (.iastore, 1) := by decide +kernel
theorem dX0_reach_49 : decode cX0_reach 49 = .ok (.aload_n 0, 1) := by decide +kernel
theorem dX0_reach_50 : decode cX0_reach 50 = .ok (.dup, 1) := by decide +kernel
theorem dX0_reach_51 : decode cX0_reach 51 = .ok (.getfield 90, 3) := by decide +kernel
theorem dX0_reach_54 : decode cX0_reach 54 = .ok (.iconst 1, 1) := by decide +kernel
theorem dX0_reach_55 : decode cX0_reach 55 = .ok (.iadd, 1) := by decide +kernel
theorem dX0_reach_56 : decode cX0_reach 56 = .ok (.putfield 90, 3) := by decide +kernel
theorem dX0_reach_59 : decode cX0_reach 59 = .ok (.return_, 1) := by decide +kernel
theorem dX0_leave_0 : decode cX0_leave 0 = .ok (.iconst 0, 1) := by decide +kernel
theorem dX0_leave_1 : decode cX0_leave 1 = .ok (.istore_n 2, 1) := by decide +kernel
theorem dX0_leave_2 : decode cX0_leave 2 = .ok (.iload_n 2, 1) := by decide +kernel
theorem dX0_leave_3 : decode cX0_leave 3 = .ok (.aload_n 0, 1) := by decide +kernel
theorem dX0_leave_4 : decode cX0_leave 4 = .ok (.getfield 37, 3) := by decide +kernel
theorem dX0_leave_7 : decode cX0_leave 7 = .ok (.getfield 51, 3) := by decide +kernel
theorem dX0_leave_10 : decode cX0_leave 10 = .ok (.if_icmp .ge 33, 3) := by decide +kernel
theorem dX0_leave_13 : decode cX0_leave 13 = .ok (.aload_n 0, 1) := by decide +kernel
theorem dX0_leave_14 : decode cX0_leave 14 = .ok (.getfield 9, 3) := by decide +kernel
theorem dX0_leave_17 : decode cX0_leave 17 = .ok (.iload_n 2, 1) := by decide +kernel
theorem dX0_leave_18 : decode cX0_leave 18 = .ok (.iaload, 1) := by decide +kernel
theorem dX0_leave_19 : decode cX0_leave 19 = .ok (.iload_n 1, 1) := by decide +kernel
theorem dX0_leave_20 : decode cX0_leave 20 = .ok (.if_icmp .ne 17, 3) := by decide +kernel
theorem dX0_leave_23 : decode cX0_leave 23 = .ok (.aload_n 0, 1) := by decide +kernel
theorem dX0_leave_24 : decode cX0_leave 24 = .ok (.iload_n 1, 1) := by decide +kernel
theorem dX0_leave_25 : decode cX0_leave 25 = .ok (.iload_n 2, 1) := by decide +kernel
theorem dX0_leave_26 : decode cX0_leave 26 = .ok (.invokevirtual 106, 3) := by decide +kernel
theorem dX0_leave_29 : decode cX0_leave 29 = .ok (.istore_n 3, 1) := by decide +kernel
theorem dX0_leave_30 : decode cX0_leave 30 = .ok (.iload_n 3, 1) := by decide +kernel
theorem dX0_leave_31 : decode cX0_leave 31 = .ok (.iconst (-1), 1) := by decide +kernel
theorem dX0_leave_32 : decode cX0_leave 32 = .ok (.if_icmp .eq 5, 3) := by decide +kernel
theorem dX0_leave_35 : decode cX0_leave 35 = .ok (.iload_n 3, 1) := by decide +kernel
theorem dX0_leave_36 : decode cX0_leave 36 = .ok (.ireturn, 1) := by decide +kernel
theorem dX0_leave_37 : decode cX0_leave 37 = .ok (.iinc 2 1, 3) := by decide +kernel
theorem dX0_leave_40 : decode cX0_leave 40 = .ok (.goto (-38), 3) := by decide +kernel
theorem dX0_leave_43 : decode cX0_leave 43 = .ok (.iconst (-1), 1) := by decide +kernel
theorem dX0_leave_44 : decode cX0_leave 44 = .ok (.ireturn, 1) := by decide +kernel
theorem dX0_leaveWith_0 : decode cX0_leaveWith 0 = .ok (.iconst 0, 1) := by decide +kernel
theorem dX0_leaveWith_1 : decode cX0_leaveWith 1 = .ok (.istore_n 3, 1) := by decide +kernel
theorem dX0_leaveWith_2 : decode cX0_leaveWith 2 = .ok (.iload_n 3, 1) := by decide +kernel
theorem dX0_leaveWith_3 : decode cX0_leaveWith 3 = .ok (.aload_n 0, 1) := by decide +kernel
theorem dX0_leaveWith_4 : decode cX0_leaveWith 4 = .ok (.getfield 37, 3) := by decide +kernel
theorem dX0_leaveWith_7 : decode cX0_leaveWith 7 = .ok (.getfield 59, 3) := by decide +kernel
theorem dX0_leaveWith_10 : decode cX0_leaveWith 10 = .ok (.if_icmp .ge 53, 3) := by decide +kernel
theorem dX0_leaveWith_13 : decode cX0_leaveWith 13 = .ok (.aload_n 0, 1) := by decide +kernel
theorem dX0_leaveWith_14 : decode cX0_leaveWith 14 = .ok (.getfield 15, 3) := by decide +kernel
theorem dX0_leaveWith_17 : decode cX0_leaveWith 17 = .ok (.iload_n 2, 1) := by decide +kernel
theorem dX0_leaveWith_18 : decode cX0_leaveWith 18 = .ok (.iaload, 1) := by decide +kernel
theorem dX0_leaveWith_19 : decode cX0_leaveWith 19 = .ok (.iload_n 3, 1) := by decide +kernel
theorem dX0_leaveWith_20 : decode cX0_leaveWith 20 = .ok (.invokestatic 110, 3) := by decide +kernel
theorem dX0_leaveWith_23 : decode cX0_leaveWith 23 = .ok (.ifCond .eq 34, 3) := by decide +kernel
theorem dX0_leaveWith_26 : decode cX0_leaveWith 26 = .ok (.aload_n 0, 1) := by decide +kernel
theorem dX0_leaveWith_27 : decode cX0_leaveWith 27 = .ok (.iconst 4, 1) := by decide +kernel
theorem dX0_leaveWith_28 : decode cX0_leaveWith 28 = .ok (.iload_n 3, 1) := by decide +kernel
theorem dX0_leaveWith_29 : decode cX0_leaveWith 29 = .ok (.iadd, 1) := by decide +kernel
theorem dX0_leaveWith_30 : decode cX0_leaveWith 30 = .ok (.iload_n 1, 1) := by decide +kernel
theorem dX0_leaveWith_31 : decode cX0_leaveWith 31 = .ok (.iload_n 2, 1) := by decide +kernel
theorem dX0_leaveWith_32 : decode cX0_leaveWith 32 = .ok (.invokevirtual 102, 3) := by decide +kernel
theorem dX0_leaveWith_35 : decode cX0_leaveWith 35 = .ok (.aload_n 0, 1) := by decide +kernel
theorem dX0_leaveWith_36 : decode cX0_leaveWith 36 = .ok (.getfield 18, 3) := by decide +kernel
theorem dX0_leaveWith_39 : decode cX0_leaveWith 39 = .ok (.iload_n 3, 1) := by decide +kernel
theorem dX0_leaveWith_40 : decode cX0_leaveWith 40 = .ok (.iaload, 1) := by decide +kernel
theorem dX0_leaveWith_41 : decode cX0_leaveWith 41 = .ok (.aload_n 0, 1) := by decide +kernel
theorem dX0_leaveWith_42 : decode cX0_leaveWith 42 = .ok (.getfield 37, 3) := by decide +kernel
theorem dX0_leaveWith_45 : decode cX0_leaveWith 45 = .ok (.getfield 114, 3) := by decide +kernel
theorem dX0_leaveWith_48 : decode cX0_leaveWith 48 = .ok (.iload_n 3, 1) := by decide +kernel
theorem dX0_leaveWith_49 : decode cX0_leaveWith 49 = .ok (.iaload, 1) := by decide +kernel
theorem dX0_leaveWith_50 : decode cX0_leaveWith 50 = .ok (.if_icmp .ge 7, 3) := by decide +kernel
theorem dX0_leaveWith_53 : decode cX0_leaveWith 53 = .ok (.iconst 4, 1) := by decide +kernel
theorem dX0_leaveWith_54 : decode cX0_leaveWith 54 = .ok (.iload_n 3, 1) := by decide +kernel
theorem dX0_leaveWith_55 : decode cX0_leaveWith 55 = .ok (.iadd, 1) := by decide +kernel
theorem dX0_leaveWith_56 : decode cX0_leaveWith 56 = .ok (.ireturn, 1) := by decide +kernel
theorem dX0_leaveWith_57 : decode cX0_leaveWith 57 = .ok (.iinc 3 1, 3) := by decide +kernel
theorem dX0_leaveWith_60 : decode cX0_leaveWith 60 = .ok (.goto (-58), 3) := by decide +kernel
theorem dX0_leaveWith_63 : decode cX0_leaveWith 63 = .ok (.iload_n 1, 1) := by decide +kernel
theorem dX0_leaveWith_64 : decode cX0_leaveWith 64 = .ok (.iconst 4, 1) := by decide +kernel
theorem dX0_leaveWith_65 : decode cX0_leaveWith 65 = .ok (.if_icmp .lt 18, 3) := by decide +kernel
theorem dX0_leaveWith_68 : decode cX0_leaveWith 68 = .ok (.aload_n 0, 1) := by decide +kernel
theorem dX0_leaveWith_69 : decode cX0_leaveWith 69 = .ok (.aload_n 0, 1) := by decide +kernel
theorem dX0_leaveWith_70 : decode cX0_leaveWith 70 = .ok (.getfield 37, 3) := by decide +kernel
theorem dX0_leaveWith_73 : decode cX0_leaveWith 73 = .ok (.getfield 84, 3) := by decide +kernel
theorem dX0_leaveWith_76 : decode cX0_leaveWith 76 = .ok (.iload_n 2, 1) := by decide +kernel
theorem dX0_leaveWith_77 : decode cX0_leaveWith 77 = .ok (.iaload, 1) := by decide +kernel
theorem dX0_leaveWith_78 : decode cX0_leaveWith 78 = .ok (.iload_n 1, 1) := by decide +kernel
theorem dX0_leaveWith_79 : decode cX0_leaveWith 79 = .ok (.iload_n 2, 1) := by decide +kernel
theorem dX0_leaveWith_80 : decode cX0_leaveWith 80 = .ok (.invokevirtual 102, 3) := by decide +kernel
theorem dX0_leaveWith_83 : decode cX0_leaveWith 83 = .ok (.iconst (-1), 1) := by decide +kernel
theorem dX0_leaveWith_84 : decode cX0_leaveWith 84 = .ok (.ireturn, 1) := by decide +kernel
theorem dX0_shiftAlong_0 : decode cX0_shiftAlong 0 = .ok (.aload_n 0, 1) := by decide +kernel
theorem dX0_shiftAlong_1 : decode cX0_shiftAlong 1 = .ok (.getfield 18, 3) := by decide +kernel
theorem dX0_shiftAlong_4 : decode cX0_shiftAlong 4 = .ok (.iload_n 1, 1) := by decide +kernel
theorem dX0_shiftAlong_5 : decode cX0_shiftAlong 5 = .ok (.iconst 4, 1) := by decide +kernel
theorem dX0_shiftAlong_6 : decode cX0_shiftAlong 6 = .ok (.isub, 1) := by decide +kernel
theorem dX0_shiftAlong_7 : decode cX0_shiftAlong 7 = .ok (.dup2, 1) := by decide +kernel
theorem dX0_shiftAlong_8 : decode cX0_shiftAlong 8 = .ok (.iaload, 1) := by decide +kernel
theorem dX0_shiftAlong_9 : decode cX0_shiftAlong 9 = .ok (.iconst 1, 1) := by decide +kernel
theorem dX0_shiftAlong_10 : decode cX0_shiftAlong 10 = .ok (.iadd, 1) := by decide +kernel
theorem dX0_shiftAlong_11 : decode cX0_shiftAlong 11 = .ok (.iastore, 1) := by decide +kernel
theorem dX0_shiftAlong_12 : decode cX0_shiftAlong 12 = .ok (.iload_n 1, 1) := by decide +kernel
theorem dX0_shiftAlong_13 : decode cX0_shiftAlong 13 = .ok (.istore_n 2, 1) := by decide +kernel
theorem dX0_shiftAlong_14 : decode cX0_shiftAlong 14 = .ok (.iconst 0, 1) := by decide +kernel
theorem dX0_shiftAlong_15 : decode cX0_shiftAlong 15 = .ok (.istore_n 3, 1) := by decide +kernel
theorem dX0_shiftAlong_16 : decode cX0_shiftAlong 16 = .ok (.iload_n 3, 1) := by decide +kernel
theorem dX0_shiftAlong_17 : decode cX0_shiftAlong 17 = .ok (.bipush 16, 2) := by decide +kernel
theorem dX0_shiftAlong_19 : decode cX0_shiftAlong 19 = .ok (.if_icmp .ge 38, 3) := by decide +kernel
theorem dX0_shiftAlong_22 : decode cX0_shiftAlong 22 = .ok (.aload_n 0, 1) := by decide +kernel
theorem dX0_shiftAlong_23 : decode cX0_shiftAlong 23 = .ok (.getfield 31, 3) := by decide +kernel
theorem dX0_shiftAlong_26 : decode cX0_shiftAlong 26 = .ok (.iload_n 2, 1) := by decide +kernel
theorem dX0_shiftAlong_27 : decode cX0_shiftAlong 27 = .ok (.iaload, 1) := by decide +kernel
theorem dX0_shiftAlong_28 : decode cX0_shiftAlong 28 = .ok (.iconst (-1), 1) := by decide +kernel
theorem dX0_shiftAlong_29 : decode cX0_shiftAlong 29 = .ok (.if_icmp .eq 28, 3) := by decide +kernel
theorem dX0_shiftAlong_32 : decode cX0_shiftAlong 32 = .ok (.aload_n 0, 1) := by decide +kernel
theorem dX0_shiftAlong_33 : decode cX0_shiftAlong 33 = .ok (.getfield 9, 3) := by decide +kernel
theorem dX0_shiftAlong_36 : decode cX0_shiftAlong 36 = .ok (.aload_n 0, 1) := by decide +kernel
theorem dX0_shiftAlong_37 : decode cX0_shiftAlong 37 = .ok (.getfield 34, 3) := by decide +kernel
theorem dX0_shiftAlong_40 : decode cX0_shiftAlong 40 = .ok (.iload_n 2, 1) := by decide +kernel
theorem dX0_shiftAlong_41 : decode cX0_shiftAlong 41 = .ok (.iaload, 1) := by decide +kernel
theorem dX0_shiftAlong_42 : decode cX0_shiftAlong 42 = .ok (.iload_n 2, 1) := by decide +kernel
theorem dX0_shiftAlong_43 : decode cX0_shiftAlong 43 = .ok (.iastore, 1) := by decide +kernel
theorem dX0_shiftAlong_44 : decode cX0_shiftAlong 44 = .ok (.aload_n 0, 1) := by decide +kernel
theorem dX0_shiftAlong_45 : decode cX0_shiftAlong 45 = .ok (.getfield 31, 3) := by decide +kernel
theorem dX0_shiftAlong_48 : decode cX0_shiftAlong 48 = .ok (.iload_n 2, 1) := by decide +kernel
theorem dX0_shiftAlong_49 : decode cX0_shiftAlong 49 = .ok (.iaload, 1) := by decide +kernel
theorem dX0_shiftAlong_50 : decode cX0_shiftAlong 50 = .ok (.istore_n 2, 1) := by decide +kernel
theorem dX0_shiftAlong_51 : decode cX0_shiftAlong 51 = .ok (.iinc 3 1, 3) := by decide +kernel
theorem dX0_shiftAlong_54 : decode cX0_shiftAlong 54 = .ok (.goto (-38), 3) := by decide +kernel
theorem dX0_shiftAlong_57 : decode cX0_shiftAlong 57 = .ok (.aload_n 0, 1) := by decide +kernel
theorem dX0_shiftAlong_58 : decode cX0_shiftAlong 58 = .ok (.getfield 21, 3) := by decide +kernel
theorem dX0_shiftAlong_61 : decode cX0_shiftAlong 61 = .ok (.iload_n 2, 1) := by decide +kernel
theorem dX0_shiftAlong_62 : decode cX0_shiftAlong 62 = .ok (.dup2, 1) := by decide +kernel
theorem dX0_shiftAlong_63 : decode cX0_shiftAlong 63 = .ok (.iaload, 1) := by decide +kernel
theorem dX0_shiftAlong_64 : decode cX0_shiftAlong 64 = .ok (.iconst 1, 1) := by decide +kernel
theorem dX0_shiftAlong_65 : decode cX0_shiftAlong 65 = .ok (.iadd, 1) := by decide +kernel
theorem dX0_shiftAlong_66 : decode cX0_shiftAlong 66 = .ok (.iastore, 1) := by decide +kernel
theorem dX0_shiftAlong_67 : decode cX0_shiftAlong 67 = .ok (.return_, 1) := by decide +kernel
