theorem dX5_init_0 : decode cX5_init 0 = .ok (.aload_n 0, 1) := by decide +kernel
theorem dX5_init_1 : decode cX5_init 1 = .ok (.invokespecial 1, 3) := by decide +kernel
theorem dX5_init_4 : decode cX5_init 4 = .ok (.aload_n 0, 1) := by decide +kernel
theorem dX5_init_5 : decode cX5_init 5 = .ok (.new 7, 3) := by decide +kernel
theorem dX5_init_8 : decode cX5_init 8 = .ok (.dup, 1) := by decide +kernel
theorem dX5_init_9 : decode cX5_init 9 = .ok (.invokespecial 9, 3) := by decide +kernel
theorem dX5_init_12 : decode cX5_init 12 = .ok (.putfield 10, 3) := by decide +kernel
theorem dX5_init_15 : decode cX5_init 15 = .ok (.aload_n 0, 1) := by decide +kernel
theorem dX5_init_16 : decode cX5_init 16 = .ok (.new 16, 3) := by decide +kernel
theorem dX5_init_19 : decode cX5_init 19 = .ok (.dup, 1) := by decide +kernel
theorem dX5_init_20 : decode cX5_init 20 = .ok (.invokespecial 18, 3) := by decide +kernel
theorem dX5_init_23 : decode cX5_init 23 = .ok (.putfield 19, 3) := by decide +kernel
theorem dX5_init_26 : decode cX5_init 26 = .ok (.aload_n 0, 1) := by decide +kernel
theorem dX5_init_27 : decode cX5_init 27 = .ok (.new 23, 3) := by decide +kernel
theorem dX5_init_30 : decode cX5_init 30 = .ok (.dup, 1) := by decide +kernel
theorem dX5_init_31 : decode cX5_init 31 = .ok (.aload_n 0, 1) := by decide +kernel
theorem dX5_init_32 : decode cX5_init 32 = .ok (.getfield 10, 3) := by decide +kernel
theorem dX5_init_35 : decode cX5_init 35 = .ok (.invokespecial 25, 3) := by decide +kernel
theorem dX5_init_38 : decode cX5_init 38 = .ok (.putfield 28, 3) := by decide +kernel
theorem dX5_init_41 : decode cX5_init 41 = .ok (.aload_n 0, 1) := by decide +kernel
theorem dX5_init_42 : decode cX5_init 42 = .ok (.new 32, 3) := by decide +kernel
theorem dX5_init_45 : decode cX5_init 45 = .ok (.dup, 1) := by decide +kernel
theorem dX5_init_46 : decode cX5_init 46 = .ok (.aload_n 0, 1) := by decide +kernel
theorem dX5_init_47 : decode cX5_init 47 = .ok (.getfield 10, 3) := by decide +kernel
theorem dX5_init_50 : decode cX5_init 50 = .ok (.aload_n 0, 1) := by decide +kernel
theorem dX5_init_51 : decode cX5_init 51 = .ok (.getfield 28, 3) := by decide +kernel
theorem dX5_init_54 : decode cX5_init 54 = .ok (.aload_n 0, 1) := by decide +kernel
theorem dX5_init_55 : decode cX5_init 55 = .ok (.getfield 19, 3) := by decide +kernel
theorem dX5_init_58 : decode cX5_init 58 = .ok (.invokespecial 34, 3) := by decide +kernel
theorem dX5_init_61 : decode cX5_init 61 = .ok (.putfield 37, 3) := by decide +kernel
theorem dX5_init_64 : decode cX5_init 64 = .ok (.aload_n 0, 1) := by decide +kernel
theorem dX5_init_65 : decode cX5_init 65 = .ok (.new 41, 3) := by decide +kernel
theorem dX5_init_68 : decode cX5_init 68 = .ok (.dup, 1) := by decide +kernel
theorem dX5_init_69 : decode cX5_init 69 = .ok (.aload_n 0, 1) := by decide +kernel
theorem dX5_init_70 : decode cX5_init 70 = .ok (.getfield 10, 3) := by decide +kernel
theorem dX5_init_73 : decode cX5_init 73 = .ok (.invokespecial 43, 3) := by decide +kernel
theorem dX5_init_76 : decode cX5_init 76 = .ok (.putfield 44, 3) := by decide +kernel
theorem dX5_init_79 : decode cX5_init 79 = .ok (.return_, 1) := by decide +kernel
theorem dX5_addResource_0 : decode cX5_addResource 0 = .ok (.iload_n 1, 1) := by decide +kernel
theorem dX5_addResource_1 : decode cX5_addResource 1 = .ok (.iconst 0, 1) := by decide +kernel
theorem dX5_addResource_2 : decode cX5_addResource 2 = .ok (.iconst 4, 1) := by decide +kernel
theorem dX5_addResource_3 : decode cX5_addResource 3 = .ok (.invokestatic 48, 3) := by decide +kernel
theorem dX5_addResource_6 : decode cX5_addResource 6 = .ok (.ifCond .ne 13, 3) := by decide +kernel
theorem dX5_addResource_9 : decode cX5_addResource 9 = .ok (.new 52, 3) := by decide +kernel
theorem dX5_addResource_12 : decode cX5_addResource 12 = .ok (.dup, 1) := by decide +kernel
theorem dX5_addResource_13 : decode cX5_addResource 13 = .ok (.ldc 54, 2) := by decide +kernel
theorem dX5_addResource_15 : decode cX5_addResource 15 = .ok (.invokespecial 56, 3) := by decide +kernel
theorem dX5_addResource_18 : decode cX5_addResource 18 = .ok (.athrow, 1) := by decide +kernel
theorem dX5_addResource_19 : decode cX5_addResource 19 = .ok (.aload_n 0, 1) := by decide +kernel
theorem dX5_addResource_20 : decode cX5_addResource 20 = .ok (.getfield 10, 3) := by decide +kernel
theorem dX5_addResource_23 : decode cX5_addResource 23 = .ok (.getfield 59, 3) := by decide +kernel
theorem dX5_addResource_26 : decode cX5_addResource 26 = .ok (.bipush 12, 2) := by decide +kernel
theorem dX5_addResource_28 : decode cX5_addResource 28 = .ok (.if_icmp .lt 13, 3) := by decide +kernel
theorem dX5_addResource_31 : decode cX5_addResource 31 = .ok (.new 63, 3) := by decide +kernel
theorem dX5_addResource_34 : decode cX5_addResource 34 = .ok (.dup, 1) := by decide +kernel
theorem dX5_addResource_35 : decode cX5_addResource 35 = .ok (.ldc 65, 2) := by decide +kernel
theorem dX5_addResource_37 : decode cX5_addResource 37 = .ok (.invokespecial 67, 3) := by decide +kernel
theorem dX5_addResource_40 : decode cX5_addResource 40 = .ok (.athrow, 1) := by decide +kernel
theorem dX5_addResource_41 : decode cX5_addResource 41 = .ok (.aload_n 0, 1) := by decide +kernel
theorem dX5_addResource_42 : decode cX5_addResource 42 = .ok (.getfield 19, 3) := by decide +kernel
theorem dX5_addResource_45 : decode cX5_addResource 45 = .ok (.invokevirtual 68, 3) := by decide +kernel
theorem dX5_addResource_48 : decode cX5_addResource 48 = .ok (.aload_n 0, 1) := by decide +kernel
theorem dX5_addResource_49 : decode cX5_addResource 49 = .ok (.getfield 10, 3) := by decide +kernel
theorem dX5_addResource_52 : decode cX5_addResource 52 = .ok (.iload_n 1, 1) := by decide +kernel
theorem dX5_addResource_53 : decode cX5_addResource 53 = .ok (.invokevirtual 71, 3) := by decide +kernel
theorem dX5_addResource_56 : decode cX5_addResource 56 = .ok (.istore_n 2, 1) := by decide +kernel
theorem dX5_addResource_57 : decode cX5_addResource 57 = .ok (.aload_n 0, 1) := by decide +kernel
theorem dX5_addResource_58 : decode cX5_addResource 58 = .ok (.getfield 37, 3) := by decide +kernel
theorem dX5_addResource_61 : decode cX5_addResource 61 = .ok (.invokevirtual 75, 3) := by decide +kernel
theorem dX5_addResource_64 : decode cX5_addResource 64 = .ok (.pop, 1) := by decide +kernel
theorem dX5_addResource_65 : decode cX5_addResource 65 = .ok (.iload_n 2, 1) := by decide +kernel
theorem dX5_addResource_66 : decode cX5_addResource 66 = .ok (.ireturn, 1) := by decide +kernel
theorem dX5_setGroup_0 : decode cX5_setGroup 0 = .ok (.aload_n 0, 1) := by decide +kernel
theorem dX5_setGroup_1 : decode cX5_setGroup 1 = .ok (.iload_n 1, 1) := by decide +kernel
theorem dX5_setGroup_2 : decode cX5_setGroup 2 = .ok (.invokevirtual 90, 3) := by decide +kernel
theorem dX5_setGroup_5 : decode cX5_setGroup 5 = .ok (.iload_n 2, 1) := by decide +kernel
theorem dX5_setGroup_6 : decode cX5_setGroup 6 = .ok (.iconst 0, 1) := by decide +kernel
theorem dX5_setGroup_7 : decode cX5_setGroup 7 = .ok (.bipush 40, 2) := by decide +kernel
theorem dX5_setGroup_9 : decode cX5_setGroup 9 = .ok (.invokestatic 48, 3) := by decide +kernel
theorem dX5_setGroup_12 : decode cX5_setGroup 12 = .ok (.ifCond .ne 13, 3) := by decide +kernel
theorem dX5_setGroup_15 : decode cX5_setGroup 15 = .ok (.new 52, 3) := by decide +kernel
theorem dX5_setGroup_18 : decode cX5_setGroup 18 = .ok (.dup, 1) := by decide +kernel
theorem dX5_setGroup_19 : decode cX5_setGroup 19 = .ok (.ldc 93, 2) := by decide +kernel
theorem dX5_setGroup_21 : decode cX5_setGroup 21 = .ok (.invokespecial 56, 3) := by decide +kernel
theorem dX5_setGroup_24 : decode cX5_setGroup 24 = .ok (.athrow, 1) := by decide +kernel
theorem dX5_setGroup_25 : decode cX5_setGroup 25 = .ok (.iload_n 3, 1) := by decide +kernel
theorem dX5_setGroup_26 : decode cX5_setGroup 26 = .ok (.iconst 1, 1) := by decide +kernel
theorem dX5_setGroup_27 : decode cX5_setGroup 27 = .ok (.bipush 10, 2) := by decide +kernel
theorem dX5_setGroup_29 : decode cX5_setGroup 29 = .ok (.invokestatic 48, 3) := by decide +kernel
theorem dX5_setGroup_32 : decode cX5_setGroup 32 = .ok (.ifCond .ne 13, 3) := by decide +kernel
theorem dX5_setGroup_35 : decode cX5_setGroup 35 = .ok (.new 52, 3) := by decide +kernel
theorem dX5_setGroup_38 : decode cX5_setGroup 38 = .ok (.dup, 1) := by decide +kernel
theorem dX5_setGroup_39 : decode cX5_setGroup 39 = .ok (.ldc 95, 2) := by decide +kernel
theorem dX5_setGroup_41 : decode cX5_setGroup 41 = .ok (.invokespecial 56, 3) := by decide +kernel
theorem dX5_setGroup_44 : decode cX5_setGroup 44 = .ok (.athrow, 1) := by decide +kernel
theorem dX5_setGroup_45 : decode cX5_setGroup 45 = .ok (.aload_n 0, 1) := by decide +kernel
theorem dX5_setGroup_46 : decode cX5_setGroup 46 = .ok (.getfield 19, 3) := by decide +kernel
theorem dX5_setGroup_49 : decode cX5_setGroup 49 = .ok (.invokevirtual 68, 3) := by decide +kernel
theorem dX5_setGroup_52 : decode cX5_setGroup 52 = .ok (.aload_n 0, 1) := by decide +kernel
theorem dX5_setGroup_53 : decode cX5_setGroup 53 = .ok (.getfield 10, 3) := by decide +kernel
theorem dX5_setGroup_56 : decode cX5_setGroup 56 = .ok (.getfield 97, 3) := by decide +kernel
theorem dX5_setGroup_59 : decode cX5_setGroup 59 = .ok (.iload_n 1, 1) := by decide +kernel
theorem dX5_setGroup_60 : decode cX5_setGroup 60 = .ok (.iload_n 2, 1) := by decide +kernel
theorem dX5_setGroup_61 : decode cX5_setGroup 61 = .ok (.iastore, 1) := by decide +kernel
theorem dX5_setGroup_62 : decode cX5_setGroup 62 = .ok (.aload_n 0, 1) := by decide +kernel
theorem dX5_setGroup_63 : decode cX5_setGroup 63 = .ok (.getfield 10, 3) := by decide +kernel
theorem dX5_setGroup_66 : decode cX5_setGroup 66 = .ok (.getfield 100, 3) := by decide +kernel
theorem dX5_setGroup_69 : decode cX5_setGroup 69 = .ok (.iload_n 1, 1) := by decide +kernel
theorem dX5_setGroup_70 : decode cX5_setGroup 70 = .ok (.iload_n 3, 1) := by decide +kernel
theorem dX5_setGroup_71 : decode cX5_setGroup 71 = .ok (.iastore, 1) := by decide +kernel
theorem dX5_setGroup_72 : decode cX5_setGroup 72 = .ok (.aload_n 0, 1) := by decide +kernel
theorem dX5_setGroup_73 : decode cX5_setGroup 73 = .ok (.getfield 10, 3) := by decide +kernel
theorem dX5_setGroup_76 : decode cX5_setGroup 76 = .ok (.iload_n 1, 1) := by decide +kernel
theorem dX5_setGroup_77 : decode cX5_setGroup 77 = .ok (.invokevirtual 103, 3) := by decide +kernel
theorem dX5_setGroup_80 : decode cX5_setGroup 80 = .ok (.istore 4, 2) := by decide +kernel
theorem dX5_setGroup_82 : decode cX5_setGroup 82 = .ok (.aload_n 0, 1) := by decide +kernel
theorem dX5_setGroup_83 : decode cX5_setGroup 83 = .ok (.getfield 37, 3) := by decide +kernel
theorem dX5_setGroup_86 : decode cX5_setGroup 86 = .ok (.invokevirtual 75, 3) := by decide +kernel
theorem dX5_setGroup_89 : decode cX5_setGroup 89 = .ok (.pop, 1) := by decide +kernel
theorem dX5_setGroup_90 : decode cX5_setGroup 90 = .ok (.iload 4, 2) := by decide +kernel
theorem dX5_setGroup_92 : decode cX5_setGroup 92 = .ok (.ireturn, 1) := by decide +kernel
theorem dX5_setLimits_0 : decode cX5_setLimits 0 = .ok (.iload_n 1, 1) := by decide +kernel
theorem dX5_setLimits_1 : decode cX5_setLimits 1 = .ok (.iconst 0, 1) := by decide +kernel
theorem dX5_setLimits_2 : decode cX5_setLimits 2 = .ok (.iconst 5, 1) := by decide +kernel
theorem dX5_setLimits_3 : decode cX5_setLimits 3 = .ok (.invokestatic 48, 3) := by decide +kernel
theorem dX5_setLimits_6 : decode cX5_setLimits 6 = .ok (.ifCond .ne 13, 3) := by decide +kernel
theorem dX5_setLimits_9 : decode cX5_setLimits 9 = .ok (.new 52, 3) := by decide +kernel
theorem dX5_setLimits_12 : decode cX5_setLimits 12 = .ok (.dup, 1) := by decide +kernel
theorem dX5_setLimits_13 : decode cX5_setLimits 13 = .ok (.ldc 106, 2) := by decide +kernel
theorem dX5_setLimits_15 : decode cX5_setLimits 15 = .ok (.invokespecial 56, 3) := by decide +kernel
theorem dX5_setLimits_18 : decode cX5_setLimits 18 = .ok (.athrow, 1) := by decide +kernel
theorem dX5_setLimits_19 : decode cX5_setLimits 19 = .ok (.iload_n 2, 1) := by decide +kernel
theorem dX5_setLimits_20 : decode cX5_setLimits 20 = .ok (.iconst 0, 1) := by decide +kernel
theorem dX5_setLimits_21 : decode cX5_setLimits 21 = .ok (.bipush 20, 2) := by decide +kernel
theorem dX5_setLimits_23 : decode cX5_setLimits 23 = .ok (.invokestatic 48, 3) := by decide +kernel
theorem dX5_setLimits_26 : decode cX5_setLimits 26 = .ok (.ifCond .ne 13, 3) := by decide +kernel
theorem dX5_setLimits_29 : decode cX5_setLimits 29 = .ok (.new 52, 3) := by decide +kernel
theorem dX5_setLimits_32 : decode cX5_setLimits 32 = .ok (.dup, 1) := by decide +kernel
theorem dX5_setLimits_33 : decode cX5_setLimits 33 = .ok (.ldc 108, 2) := by decide +kernel
theorem dX5_setLimits_35 : decode cX5_setLimits 35 = .ok (.invokespecial 56, 3) := by decide +kernel
theorem dX5_setLimits_38 : decode cX5_setLimits 38 = .ok (.athrow, 1) := by decide +kernel
theorem dX5_setLimits_39 : decode cX5_setLimits 39 = .ok (.aload_n 0, 1) := by decide +kernel
theorem dX5_setLimits_40 : decode cX5_setLimits 40 = .ok (.getfield 19, 3) := by decide +kernel
theorem dX5_setLimits_43 : decode cX5_setLimits 43 = .ok (.invokevirtual 68, 3) := by decide +kernel
theorem dX5_setLimits_46 : decode cX5_setLimits 46 = .ok (.aload_n 0, 1) := by decide +kernel
theorem dX5_setLimits_47 : decode cX5_setLimits 47 = .ok (.getfield 10, 3) := by decide +kernel
theorem dX5_setLimits_50 : decode cX5_setLimits 50 = .ok (.iload_n 1, 1) := by decide +kernel
theorem dX5_setLimits_51 : decode cX5_setLimits 51 = .ok (.putfield 110, 3) := by decide +kernel
theorem dX5_setLimits_54 : decode cX5_setLimits 54 = .ok (.aload_n 0, 1) := by decide +kernel
theorem dX5_setLimits_55 : decode cX5_setLimits 55 = .ok (.getfield 10, 3) := by decide +kernel
theorem dX5_setLimits_58 : decode cX5_setLimits 58 = .ok (.iload_n 2, 1) := by decide +kernel
theorem dX5_setLimits_59 : decode cX5_setLimits 59 = .ok (.putfield 113, 3) := by decide +kernel
theorem dX5_setLimits_62 : decode cX5_setLimits 62 = .ok (.aload_n 0, 1) := by decide +kernel
theorem dX5_setLimits_63 : decode cX5_setLimits 63 = .ok (.getfield 37, 3) := by decide +kernel
theorem dX5_setLimits_66 : decode cX5_setLimits 66 = .ok (.invokevirtual 75, 3) := by decide +kernel
theorem dX5_setLimits_69 : decode cX5_setLimits 69 = .ok (.ireturn, 1) := by decide +kernel
theorem dX5_arrive_0 : decode cX5_arrive 0 = .ok (.aload_n 0, 1) := by decide +kernel
theorem dX5_arrive_1 : decode cX5_arrive 1 = .ok (.iload_n 1, 1) := by decide +kernel
theorem dX5_arrive_2 : decode cX5_arrive 2 = .ok (.invokevirtual 90, 3) := by decide +kernel
theorem dX5_arrive_5 : decode cX5_arrive 5 = .ok (.aload_n 0, 1) := by decide +kernel
theorem dX5_arrive_6 : decode cX5_arrive 6 = .ok (.iload_n 2, 1) := by decide +kernel
theorem dX5_arrive_7 : decode cX5_arrive 7 = .ok (.invokevirtual 116, 3) := by decide +kernel
theorem dX5_arrive_10 : decode cX5_arrive 10 = .ok (.aload_n 0, 1) := by decide +kernel
theorem dX5_arrive_11 : decode cX5_arrive 11 = .ok (.getfield 10, 3) := by decide +kernel
theorem dX5_arrive_14 : decode cX5_arrive 14 = .ok (.getfield 119, 3) := by decide +kernel
theorem dX5_arrive_17 : decode cX5_arrive 17 = .ok (.bipush 40, 2) := by decide +kernel
theorem dX5_arrive_19 : decode cX5_arrive 19 = .ok (.if_icmp .lt 13, 3) := by decide +kernel
theorem dX5_arrive_22 : decode cX5_arrive 22 = .ok (.new 63, 3) := by decide +kernel
theorem dX5_arrive_25 : decode cX5_arrive 25 = .ok (.dup, 1) := by decide +kernel
theorem dX5_arrive_26 : decode cX5_arrive 26 = .ok (.ldc 122, 2) := by decide +kernel
theorem dX5_arrive_28 : decode cX5_arrive 28 = .ok (.invokespecial 67, 3) := by decide +kernel
theorem dX5_arrive_31 : decode cX5_arrive 31 = .ok (.athrow, 1) := by decide +kernel
theorem dX5_arrive_32 : decode cX5_arrive 32 = .ok (.aload_n 0, 1) := by decide +kernel
theorem dX5_arrive_33 : decode cX5_arrive 33 = .ok (.getfield 19, 3) := by decide +kernel
theorem dX5_arrive_36 : decode cX5_arrive 36 = .ok (.invokevirtual 68, 3) := by decide +kernel
theorem dX5_arrive_39 : decode cX5_arrive 39 = .ok (.aload_n 0, 1) := by decide +kernel
theorem dX5_arrive_40 : decode cX5_arrive 40 = .ok (.getfield 10, 3) := by decide +kernel
theorem dX5_arrive_43 : decode cX5_arrive 43 = .ok (.iload_n 1, 1) := by decide +kernel
theorem dX5_arrive_44 : decode cX5_arrive 44 = .ok (.iload_n 2, 1) := by decide +kernel
theorem dX5_arrive_45 : decode cX5_arrive 45 = .ok (.invokevirtual 124, 3) := by decide +kernel
theorem dX5_arrive_48 : decode cX5_arrive 48 = .ok (.istore_n 3, 1) := by decide +kernel
theorem dX5_arrive_49 : decode cX5_arrive 49 = .ok (.aload_n 0, 1) := by decide +kernel
theorem dX5_arrive_50 : decode cX5_arrive 50 = .ok (.getfield 37, 3) := by decide +kernel
theorem dX5_arrive_53 : decode cX5_arrive 53 = .ok (.iload_n 3, 1) := by decide +kernel
theorem dX5_arrive_54 : decode cX5_arrive 54 = .ok (.invokevirtual 128, 3) := by decide +kernel
theorem dX5_arrive_57 : decode cX5_arrive 57 = .ok (.pop, 1) := by decide +kernel
theorem dX5_arrive_58 : decode cX5_arrive 58 = .ok (.iload_n 3, 1) := by decide +kernel
theorem dX5_arrive_59 : decode cX5_arrive 59 = .ok (.ireturn, 1) := by decide +kernel
theorem dX5_depart_0 : decode cX5_depart 0 = .ok (.aload_n 0, 1) := by decide +kernel
theorem dX5_depart_1 : decode cX5_depart 1 = .ok (.iload_n 1, 1) := by decide +kernel
theorem dX5_depart_2 : decode cX5_depart 2 = .ok (.invokevirtual 132, 3) := by decide +kernel
theorem dX5_depart_5 : decode cX5_depart 5 = .ok (.aload_n 0, 1) := by decide +kernel
theorem dX5_depart_6 : decode cX5_depart 6 = .ok (.getfield 19, 3) := by decide +kernel
theorem dX5_depart_9 : decode cX5_depart 9 = .ok (.invokevirtual 68, 3) := by decide +kernel
theorem dX5_depart_12 : decode cX5_depart 12 = .ok (.aload_n 0, 1) := by decide +kernel
theorem dX5_depart_13 : decode cX5_depart 13 = .ok (.getfield 10, 3) := by decide +kernel
theorem dX5_depart_16 : decode cX5_depart 16 = .ok (.iload_n 1, 1) := by decide +kernel
theorem dX5_depart_17 : decode cX5_depart 17 = .ok (.invokevirtual 135, 3) := by decide +kernel
theorem dX5_depart_20 : decode cX5_depart 20 = .ok (.aload_n 0, 1) := by decide +kernel
theorem dX5_depart_21 : decode cX5_depart 21 = .ok (.getfield 37, 3) := by decide +kernel
theorem dX5_depart_24 : decode cX5_depart 24 = .ok (.invokevirtual 75, 3) := by decide +kernel
theorem dX5_depart_27 : decode cX5_depart 27 = .ok (.ireturn, 1) := by decide +kernel
theorem dX5_setAccepts_0 : decode cX5_setAccepts 0 = .ok (.aload_n 0, 1) := by decide +kernel
theorem dX5_setAccepts_1 : decode cX5_setAccepts 1 = .ok (.iload_n 1, 1) := by decide +kernel
theorem dX5_setAccepts_2 : decode cX5_setAccepts 2 = .ok (.invokevirtual 132, 3) := by decide +kernel
theorem dX5_setAccepts_5 : decode cX5_setAccepts 5 = .ok (.aload_n 0, 1) := by decide +kernel
theorem dX5_setAccepts_6 : decode cX5_setAccepts 6 = .ok (.iload_n 2, 1) := by decide +kernel
theorem dX5_setAccepts_7 : decode cX5_setAccepts 7 = .ok (.invokevirtual 116, 3) := by decide +kernel
theorem dX5_setAccepts_10 : decode cX5_setAccepts 10 = .ok (.aload_n 0, 1) := by decide +kernel
theorem dX5_setAccepts_11 : decode cX5_setAccepts 11 = .ok (.getfield 19, 3) := by decide +kernel
theorem dX5_setAccepts_14 : decode cX5_setAccepts 14 = .ok (.invokevirtual 68, 3) := by decide +kernel
theorem dX5_setAccepts_17 : decode cX5_setAccepts 17 = .ok (.aload_n 0, 1) := by decide +kernel
theorem dX5_setAccepts_18 : decode cX5_setAccepts 18 = .ok (.getfield 10, 3) := by decide +kernel
theorem dX5_setAccepts_21 : decode cX5_setAccepts 21 = .ok (.iload_n 1, 1) := by decide +kernel
theorem dX5_setAccepts_22 : decode cX5_setAccepts 22 = .ok (.iload_n 2, 1) := by decide +kernel
theorem dX5_setAccepts_23 : decode cX5_setAccepts 23 = .ok (.invokevirtual 138, 3) := by decide +kernel
theorem dX5_setAccepts_26 : decode cX5_setAccepts 26 = .ok (.aload_n 0, 1) := by decide +kernel
theorem dX5_setAccepts_27 : decode cX5_setAccepts 27 = .ok (.getfield 37, 3) := by decide +kernel
theorem dX5_setAccepts_30 : decode cX5_setAccepts 30 = .ok (.invokevirtual 75, 3) := by decide +kernel
theorem dX5_setAccepts_33 : decode cX5_setAccepts 33 = .ok (.pop, 1) := by decide +kernel
theorem dX5_setAccepts_34 : decode cX5_setAccepts 34 = .ok (.aload_n 0, 1) := by decide +kernel
theorem dX5_setAccepts_35 : decode cX5_setAccepts 35 = .ok (.getfield 10, 3) := by decide +kernel
theorem dX5_setAccepts_38 : decode cX5_setAccepts 38 = .ok (.iload_n 1, 1) := by decide +kernel
theorem dX5_setAccepts_39 : decode cX5_setAccepts 39 = .ok (.invokevirtual 142, 3) := by decide +kernel
theorem dX5_setAccepts_42 : decode cX5_setAccepts 42 = .ok (.ireturn, 1) := by decide +kernel
theorem dX5_resourceCount_0 : decode cX5_resourceCount 0 = .ok (.aload_n 0, 1) := by decide +kernel
theorem dX5_resourceCount_1 : decode cX5_resourceCount 1 = .ok (.getfield 10, 3) := by decide +kernel
theorem dX5_resourceCount_4 : decode cX5_resourceCount 4 = .ok (.getfield 59, 3) := by decide +kernel
theorem dX5_resourceCount_7 : decode cX5_resourceCount 7 = .ok (.ireturn, 1) := by decide +kernel
theorem dX5_arrivedCount_0 : decode cX5_arrivedCount 0 = .ok (.aload_n 0, 1) := by decide +kernel
theorem dX5_arrivedCount_1 : decode cX5_arrivedCount 1 = .ok (.getfield 10, 3) := by decide +kernel
theorem dX5_arrivedCount_4 : decode cX5_arrivedCount 4 = .ok (.getfield 119, 3) := by decide +kernel
theorem dX5_arrivedCount_7 : decode cX5_arrivedCount 7 = .ok (.ireturn, 1) := by decide +kernel
theorem dX5_state_0 : decode cX5_state 0 = .ok (.aload_n 0, 1) := by decide +kernel
theorem dX5_state_1 : decode cX5_state 1 = .ok (.iload_n 1, 1) := by decide +kernel
theorem dX5_state_2 : decode cX5_state 2 = .ok (.invokevirtual 157, 3) := by decide +kernel
theorem dX5_state_5 : decode cX5_state 5 = .ok (.aload_n 0, 1) := by decide +kernel
theorem dX5_state_6 : decode cX5_state 6 = .ok (.getfield 10, 3) := by decide +kernel
theorem dX5_state_9 : decode cX5_state 9 = .ok (.iload_n 1, 1) := by decide +kernel
theorem dX5_state_10 : decode cX5_state 10 = .ok (.invokevirtual 160, 3) := by decide +kernel
theorem dX5_state_13 : decode cX5_state 13 = .ok (.ireturn, 1) := by decide +kernel
theorem dX5_resourceOf_0 : decode cX5_resourceOf 0 = .ok (.aload_n 0, 1) := by decide +kernel
theorem dX5_resourceOf_1 : decode cX5_resourceOf 1 = .ok (.iload_n 1, 1) := by decide +kernel
theorem dX5_resourceOf_2 : decode cX5_resourceOf 2 = .ok (.invokevirtual 157, 3) := by decide +kernel
theorem dX5_resourceOf_5 : decode cX5_resourceOf 5 = .ok (.aload_n 0, 1) := by decide +kernel
theorem dX5_resourceOf_6 : decode cX5_resourceOf 6 = .ok (.getfield 10, 3) := by decide +kernel
theorem dX5_resourceOf_9 : decode cX5_resourceOf 9 = .ok (.iload_n 1, 1) := by decide +kernel
theorem dX5_resourceOf_10 : decode cX5_resourceOf 10 = .ok (.invokevirtual 142, 3) := by decide +kernel
theorem dX5_resourceOf_13 : decode cX5_resourceOf 13 = .ok (.ifCond .ne 13, 3) := by decide +kernel
theorem dX5_resourceOf_16 : decode cX5_resourceOf 16 = .ok (.new 163, 3) := by decide +kernel
theorem dX5_resourceOf_19 : decode cX5_resourceOf 19 = .ok (.dup, 1) := by decide +kernel
theorem dX5_resourceOf_20 : decode cX5_resourceOf 20 = .ok (.ldc 165, 2) := by decide +kernel
theorem dX5_resourceOf_22 : decode cX5_resourceOf 22 = .ok (.invokespecial 167, 3) := by decide +kernel
theorem dX5_resourceOf_25 : decode cX5_resourceOf 25 = .ok (.athrow, 1) := by decide +kernel
theorem dX5_resourceOf_26 : decode cX5_resourceOf 26 = .ok (.aload_n 0, 1) := by decide +kernel
theorem dX5_resourceOf_27 : decode cX5_resourceOf 27 = .ok (.getfield 10, 3) := by decide +kernel
theorem dX5_resourceOf_30 : decode cX5_resourceOf 30 = .ok (.getfield 168, 3) := by decide +kernel
theorem dX5_resourceOf_33 : decode cX5_resourceOf 33 = .ok (.iload_n 1, 1) := by decide +kernel
theorem dX5_resourceOf_34 : decode cX5_resourceOf 34 = .ok (.iaload, 1) := by decide +kernel
theorem dX5_resourceOf_35 : decode cX5_resourceOf 35 = .ok (.ireturn, 1) := by decide +kernel
theorem dX5_movesOf_0 : decode cX5_movesOf 0 = .ok (.aload_n 0, 1) := by decide +kernel
theorem dX5_movesOf_1 : decode cX5_movesOf 1 = .ok (.iload_n 1, 1) := by decide +kernel
theorem dX5_movesOf_2 : decode cX5_movesOf 2 = .ok (.invokevirtual 157, 3) := by decide +kernel
theorem dX5_movesOf_5 : decode cX5_movesOf 5 = .ok (.aload_n 0, 1) := by decide +kernel
theorem dX5_movesOf_6 : decode cX5_movesOf 6 = .ok (.getfield 10, 3) := by decide +kernel
theorem dX5_movesOf_9 : decode cX5_movesOf 9 = .ok (.getfield 171, 3) := by decide +kernel
theorem dX5_movesOf_12 : decode cX5_movesOf 12 = .ok (.iload_n 1, 1) := by decide +kernel
theorem dX5_movesOf_13 : decode cX5_movesOf 13 = .ok (.iaload, 1) := by decide +kernel
theorem dX5_movesOf_14 : decode cX5_movesOf 14 = .ok (.ireturn, 1) := by decide +kernel
theorem dX5_moveCount_0 : decode cX5_moveCount 0 = .ok (.aload_n 0, 1) := by decide +kernel
theorem dX5_moveCount_1 : decode cX5_moveCount 1 = .ok (.getfield 19, 3) := by decide +kernel
theorem dX5_moveCount_4 : decode cX5_moveCount 4 = .ok (.getfield 174, 3) := by decide +kernel
theorem dX5_moveCount_7 : decode cX5_moveCount 7 = .ok (.ireturn, 1) := by decide +kernel
theorem dX5_movedRequest_0 : decode cX5_movedRequest 0 = .ok (.aload_n 0, 1) := by decide +kernel
theorem dX5_movedRequest_1 : decode cX5_movedRequest 1 = .ok (.iload_n 1, 1) := by decide +kernel
theorem dX5_movedRequest_2 : decode cX5_movedRequest 2 = .ok (.invokevirtual 177, 3) := by decide +kernel
theorem dX5_movedRequest_5 : decode cX5_movedRequest 5 = .ok (.aload_n 0, 1) := by decide +kernel
theorem dX5_movedRequest_6 : decode cX5_movedRequest 6 = .ok (.getfield 19, 3) := by decide +kernel
theorem dX5_movedRequest_9 : decode cX5_movedRequest 9 = .ok (.getfield 180, 3) := by decide +kernel
theorem dX5_movedRequest_12 : decode cX5_movedRequest 12 = .ok (.iload_n 1, 1) := by decide +kernel
theorem dX5_movedRequest_13 : decode cX5_movedRequest 13 = .ok (.iaload, 1) := by decide +kernel
theorem dX5_movedRequest_14 : decode cX5_movedRequest 14 = .ok (.ireturn, 1) := by decide +kernel
theorem dX5_movedTo_0 : decode cX5_movedTo 0 = .ok (.aload_n 0, 1) := by decide +kernel
theorem dX5_movedTo_1 : decode cX5_movedTo 1 = .ok (.iload_n 1, 1) := by decide +kernel
theorem dX5_movedTo_2 : decode cX5_movedTo 2 = .ok (.invokevirtual 177, 3) := by decide +kernel
theorem dX5_movedTo_5 : decode cX5_movedTo 5 = .ok (.aload_n 0, 1) := by decide +kernel
theorem dX5_movedTo_6 : decode cX5_movedTo 6 = .ok (.getfield 19, 3) := by decide +kernel
theorem dX5_movedTo_9 : decode cX5_movedTo 9 = .ok (.getfield 183, 3) := by decide +kernel
theorem dX5_movedTo_12 : decode cX5_movedTo 12 = .ok (.iload_n 1, 1) := by decide +kernel
theorem dX5_movedTo_13 : decode cX5_movedTo 13 = .ok (.iaload, 1) := by decide +kernel
theorem dX5_movedTo_14 : decode cX5_movedTo 14 = .ok (.ireturn, 1) := by decide +kernel
theorem dX5_requireGroup_0 : decode cX5_requireGroup 0 = .ok (.iload_n 1, 1) := by decide +kernel
theorem dX5_requireGroup_1 : decode cX5_requireGroup 1 = .ok (.iconst 0, 1) := by decide +kernel
theorem dX5_requireGroup_2 : decode cX5_requireGroup 2 = .ok (.iconst 3, 1) := by decide +kernel
theorem dX5_requireGroup_3 : decode cX5_requireGroup 3 = .ok (.invokestatic 48, 3) := by decide +kernel
theorem dX5_requireGroup_6 : decode cX5_requireGroup 6 = .ok (.ifCond .ne 13, 3) := by decide +kernel
theorem dX5_requireGroup_9 : decode cX5_requireGroup 9 = .ok (.new 208, 3) := by decide +kernel
theorem dX5_requireGroup_12 : decode cX5_requireGroup 12 = .ok (.dup, 1) := by decide +kernel
theorem dX5_requireGroup_13 : decode cX5_requireGroup 13 = .ok (.ldc 213, 2) := by decide +kernel
theorem dX5_requireGroup_15 : decode cX5_requireGroup 15 = .ok (.invokespecial 212, 3) := by decide +kernel
theorem dX5_requireGroup_18 : decode cX5_requireGroup 18 = .ok (.athrow, 1) := by decide +kernel
theorem dX5_requireGroup_19 : decode cX5_requireGroup 19 = .ok (.return_, 1) := by decide +kernel
theorem dX5_requireRequest_0 : decode cX5_requireRequest 0 = .ok (.iload_n 1, 1) := by decide +kernel
theorem dX5_requireRequest_1 : decode cX5_requireRequest 1 = .ok (.iconst 0, 1) := by decide +kernel
theorem dX5_requireRequest_2 : decode cX5_requireRequest 2 = .ok (.aload_n 0, 1) := by decide +kernel
theorem dX5_requireRequest_3 : decode cX5_requireRequest 3 = .ok (.getfield 10, 3) := by decide +kernel
theorem dX5_requireRequest_6 : decode cX5_requireRequest 6 = .ok (.getfield 119, 3) := by decide +kernel
theorem dX5_requireRequest_9 : decode cX5_requireRequest 9 = .ok (.iconst 1, 1) := by decide +kernel
theorem dX5_requireRequest_10 : decode cX5_requireRequest 10 = .ok (.isub, 1) := by decide +kernel
theorem dX5_requireRequest_11 : decode cX5_requireRequest 11 = .ok (.invokestatic 48, 3) := by decide +kernel
theorem dX5_requireRequest_14 : decode cX5_requireRequest 14 = .ok (.ifCond .ne 13, 3) := by decide +kernel
theorem dX5_requireRequest_17 : decode cX5_requireRequest 17 = .ok (.new 208, 3) := by decide +kernel
theorem dX5_requireRequest_20 : decode cX5_requireRequest 20 = .ok (.dup, 1) := by decide +kernel
theorem dX5_requireRequest_21 : decode cX5_requireRequest 21 = .ok (.ldc 215, 2) := by decide +kernel
theorem dX5_requireRequest_23 : decode cX5_requireRequest 23 = .ok (.invokespecial 212, 3) := by decide +kernel
theorem dX5_requireRequest_26 : decode cX5_requireRequest 26 = .ok (.athrow, 1) := by decide +kernel
theorem dX5_requireRequest_27 : decode cX5_requireRequest 27 = .ok (.return_, 1) := by decide +kernel
theorem dX5_requirePresent_0 : decode cX5_requirePresent 0 = .ok (.aload_n 0, 1) := by decide +kernel
theorem dX5_requirePresent_1 : decode cX5_requirePresent 1 = .ok (.iload_n 1, 1) := by decide +kernel
theorem dX5_requirePresent_2 : decode cX5_requirePresent 2 = .ok (.invokevirtual 157, 3) := by decide +kernel
theorem dX5_requirePresent_5 : decode cX5_requirePresent 5 = .ok (.aload_n 0, 1) := by decide +kernel
theorem dX5_requirePresent_6 : decode cX5_requirePresent 6 = .ok (.getfield 10, 3) := by decide +kernel
theorem dX5_requirePresent_9 : decode cX5_requirePresent 9 = .ok (.iload_n 1, 1) := by decide +kernel
theorem dX5_requirePresent_10 : decode cX5_requirePresent 10 = .ok (.invokevirtual 197, 3) := by decide +kernel
theorem dX5_requirePresent_13 : decode cX5_requirePresent 13 = .ok (.ifCond .eq 13, 3) := by decide +kernel
theorem dX5_requirePresent_16 : decode cX5_requirePresent 16 = .ok (.new 163, 3) := by decide +kernel
theorem dX5_requirePresent_19 : decode cX5_requirePresent 19 = .ok (.dup, 1) := by decide +kernel
theorem dX5_requirePresent_20 : decode cX5_requirePresent 20 = .ok (.ldc 217, 2) := by decide +kernel
theorem dX5_requirePresent_22 : decode cX5_requirePresent 22 = .ok (.invokespecial 167, 3) := by decide +kernel
theorem dX5_requirePresent_25 : decode cX5_requirePresent 25 = .ok (.athrow, 1) := by decide +kernel
theorem dX5_requirePresent_26 : decode cX5_requirePresent 26 = .ok (.return_, 1) := by decide +kernel
theorem dX5_requireMask_0 : decode cX5_requireMask 0 = .ok (.iload_n 1, 1) := by decide +kernel
theorem dX5_requireMask_1 : decode cX5_requireMask 1 = .ok (.ifCond .lt 17, 3) := by decide +kernel
theorem dX5_requireMask_4 : decode cX5_requireMask 4 = .ok (.iload_n 1, 1) := by decide +kernel
theorem dX5_requireMask_5 : decode cX5_requireMask 5 = .ok (.aload_n 0, 1) := by decide +kernel
theorem dX5_requireMask_6 : decode cX5_requireMask 6 = .ok (.getfield 10, 3) := by decide +kernel
theorem dX5_requireMask_9 : decode cX5_requireMask 9 = .ok (.invokevirtual 219, 3) := by decide +kernel
theorem dX5_requireMask_12 : decode cX5_requireMask 12 = .ok (.iconst (-1), 1) := by decide +kernel
theorem dX5_requireMask_13 : decode cX5_requireMask 13 = .ok (.ixor, 1) := by decide +kernel
theorem dX5_requireMask_14 : decode cX5_requireMask 14 = .ok (.iand, 1) := by decide +kernel
theorem dX5_requireMask_15 : decode cX5_requireMask 15 = .ok (.ifCond .eq 13, 3) := by decide +kernel
theorem dX5_requireMask_18 : decode cX5_requireMask 18 = .ok (.new 52, 3) := by decide +kernel
theorem dX5_requireMask_21 : decode cX5_requireMask 21 = .ok (.dup, 1) := by decide +kernel
theorem dX5_requireMask_22 : decode cX5_requireMask 22 = .ok (.ldc 222, 2) := by decide +kernel
theorem dX5_requireMask_24 : decode cX5_requireMask 24 = .ok (.invokespecial 56, 3) := by decide +kernel
theorem dX5_requireMask_27 : decode cX5_requireMask 27 = .ok (.athrow, 1) := by decide +kernel
theorem dX5_requireMask_28 : decode cX5_requireMask 28 = .ok (.return_, 1) := by decide +kernel
theorem dX5_requireLogged_0 : decode cX5_requireLogged 0 = .ok (.iload_n 1, 1) := by decide +kernel
theorem dX5_requireLogged_1 : decode cX5_requireLogged 1 = .ok (.iconst 0, 1) := by decide +kernel
theorem dX5_requireLogged_2 : decode cX5_requireLogged 2 = .ok (.aload_n 0, 1) := by decide +kernel
theorem dX5_requireLogged_3 : decode cX5_requireLogged 3 = .ok (.getfield 19, 3) := by decide +kernel
theorem dX5_requireLogged_6 : decode cX5_requireLogged 6 = .ok (.getfield 174, 3) := by decide +kernel
theorem dX5_requireLogged_9 : decode cX5_requireLogged 9 = .ok (.iconst 1, 1) := by decide +kernel
theorem dX5_requireLogged_10 : decode cX5_requireLogged 10 = .ok (.isub, 1) := by decide +kernel
theorem dX5_requireLogged_11 : decode cX5_requireLogged 11 = .ok (.invokestatic 48, 3) := by decide +kernel
theorem dX5_requireLogged_14 : decode cX5_requireLogged 14 = .ok (.ifCond .ne 13, 3) := by decide +kernel
theorem dX5_requireLogged_17 : decode cX5_requireLogged 17 = .ok (.new 208, 3) := by decide +kernel
theorem dX5_requireLogged_20 : decode cX5_requireLogged 20 = .ok (.dup, 1) := by decide +kernel
theorem dX5_requireLogged_21 : decode cX5_requireLogged 21 = .ok (.ldc 224, 2) := by decide +kernel
theorem dX5_requireLogged_23 : decode cX5_requireLogged 23 = .ok (.invokespecial 212, 3) := by decide +kernel
theorem dX5_requireLogged_26 : decode cX5_requireLogged 26 = .ok (.athrow, 1) := by decide +kernel
theorem dX5_requireLogged_27 : decode cX5_requireLogged 27 = .ok (.return_, 1) := by decide +kernel
theorem dX5_isWithin_0 : decode cX5_isWithin 0 = .ok (.iload_n 0, 1) := by decide +kernel
theorem dX5_isWithin_1 : decode cX5_isWithin 1 = .ok (.iload_n 1, 1) := by decide +kernel
theorem dX5_isWithin_2 : decode cX5_isWithin 2 = .ok (.if_icmp .lt 12, 3) := by decide +kernel
theorem dX5_isWithin_5 : decode cX5_isWithin 5 = .ok (.iload_n 0, 1) := by decide +kernel
theorem dX5_isWithin_6 : decode cX5_isWithin 6 = .ok (.iload_n 2, 1) := by decide +kernel
theorem dX5_isWithin_7 : decode cX5_isWithin 7 = .ok (.if_icmp .gt 7, 3) := by decide +kernel
theorem dX5_isWithin_10 : decode cX5_isWithin 10 = .ok (.iconst 1, 1) := by decide +kernel
theorem dX5_isWithin_11 : decode cX5_isWithin 11 = .ok (.goto 4, 3) := by decide +kernel
theorem dX5_isWithin_14 : decode cX5_isWithin 14 = .ok (.iconst 0, 1) := by decide +kernel
theorem dX5_isWithin_15 : decode cX5_isWithin 15 = .ok (.ireturn, 1) := by decide +kernel
theorem dX5_hasBit_0 : decode cX5_hasBit 0 = .ok (.iload_n 0, 1) := by decide +kernel
theorem dX5_hasBit_1 : decode cX5_hasBit 1 = .ok (.iload_n 1, 1) := by decide +kernel
theorem dX5_hasBit_2 : decode cX5_hasBit 2 = .ok (.ishr, 1) := by decide +kernel
theorem dX5_hasBit_3 : decode cX5_hasBit 3 = .ok (.iconst 1, 1) := by decide +kernel
theorem dX5_hasBit_4 : decode cX5_hasBit 4 = .ok (.iand, 1) := by decide +kernel
theorem dX5_hasBit_5 : decode cX5_hasBit 5 = .ok (.ifCond .eq 7, 3) := by decide +kernel
theorem dX5_hasBit_8 : decode cX5_hasBit 8 = .ok (.iconst 1, 1) := by decide +kernel
theorem dX5_hasBit_9 : decode cX5_hasBit 9 = .ok (.goto 4, 3) := by decide +kernel
theorem dX5_hasBit_12 : decode cX5_hasBit 12 = .ok (.iconst 0, 1) := by decide +kernel
theorem dX5_hasBit_13 : decode cX5_hasBit 13 = .ok (.ireturn, 1) := by decide +kernel
theorem dX5_lowestResource_0 : decode cX5_lowestResource 0 = .ok (.iconst 0, 1) := by decide +kernel
theorem dX5_lowestResource_1 : decode cX5_lowestResource 1 = .ok (.istore_n 1, 1) := by decide +kernel
theorem dX5_lowestResource_2 : decode cX5_lowestResource 2 = .ok (.iload_n 1, 1) := by decide +kernel
theorem dX5_lowestResource_3 : decode cX5_lowestResource 3 = .ok (.bipush 12, 2) := by decide +kernel
theorem dX5_lowestResource_5 : decode cX5_lowestResource 5 = .ok (.if_icmp .ge 19, 3) := by decide +kernel
theorem dX5_lowestResource_8 : decode cX5_lowestResource 8 = .ok (.iload_n 0, 1) := by decide +kernel
theorem dX5_lowestResource_9 : decode cX5_lowestResource 9 = .ok (.iload_n 1, 1) := by decide +kernel
theorem dX5_lowestResource_10 : decode cX5_lowestResource 10 = .ok (.invokestatic 226, 3) := by decide +kernel
theorem dX5_lowestResource_13 : decode cX5_lowestResource 13 = .ok (.ifCond .eq 5, 3) := by decide +kernel
theorem dX5_lowestResource_16 : decode cX5_lowestResource 16 = .ok (.iload_n 1, 1) := by decide +kernel
theorem dX5_lowestResource_17 : decode cX5_lowestResource 17 = .ok (.ireturn, 1) := by decide +kernel
theorem dX5_lowestResource_18 : decode cX5_lowestResource 18 = .ok (.iinc 1 1, 3) := by decide +kernel
theorem dX5_lowestResource_21 : decode cX5_lowestResource 21 = .ok (.goto (-19), 3) := by decide +kernel
theorem dX5_lowestResource_24 : decode cX5_lowestResource 24 = .ok (.iconst (-1), 1) := by decide +kernel
theorem dX5_lowestResource_25 : decode cX5_lowestResource 25 = .ok (.ireturn, 1) := by decide +kernel
