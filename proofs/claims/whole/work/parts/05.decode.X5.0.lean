theorem dX5_init_0 : decode cX5_init 0 = .ok (.aload_n 0, 1) := by decide +kernel
theorem dX5_init_1 : decode cX5_init 1 = .ok (.invokespecial 1, 3) := by decide +kernel
theorem dX5_init_4 : decode cX5_init 4 = .ok (.aload_n 0, 1) := by decide +kernel
theorem dX5_init_5 : decode cX5_init 5 = .ok (.new 7, 3) := by decide +kernel
theorem dX5_init_8 : decode cX5_init 8 = .ok (.dup, 1) := by decide +kernel
theorem dX5_init_9 : decode cX5_init 9 = .ok (.invokespecial 9, 3) := by decide +kernel
theorem dX5_init_12 : decode cX5_init 12 = .ok (.putfield 10, 3) := by decide +kernel
theorem dX5_init_15 : decode cX5_init 15 = .ok (.aload_n 0, 1) := by decide +kernel
theorem dX5_init_16 : decode cX5_init 16 = .ok (.new 16, 3) := by decide +kernel
theorem dX5_init_19 : decode cX5_init 19 = .ok (.dup, 1) := by decide +kernel
theorem dX5_init_20 : decode cX5_init 20 = .ok (.invokespecial 18, 3) := by decide +kernel
theorem dX5_init_23 : decode cX5_init 23 = .ok (.putfield 19, 3) := by decide +kernel
theorem dX5_init_26 : decode cX5_init 26 = .ok (.aload_n 0, 1) := by decide +kernel
theorem dX5_init_27 : decode cX5_init 27 = .ok (.new 23, 3) := by decide +kernel
theorem dX5_init_30 : decode cX5_init 30 = .ok (.dup, 1) := by decide +kernel
theorem dX5_init_31 : decode cX5_init 31 = .ok (.aload_n 0, 1) := by decide +kernel
theorem dX5_init_32 : decode cX5_init 32 = .ok (.getfield 10, 3) := by decide +kernel
theorem dX5_init_35 : decode cX5_init 35 = .ok (.invokespecial 25, 3) := by decide +kernel
theorem dX5_init_38 : decode cX5_init 38 = .ok (.putfield 28, 3) := by decide +kernel
theorem dX5_init_41 : decode cX5_init 41 = .ok (.aload_n 0, 1) := by decide +kernel
theorem dX5_init_42 : decode cX5_init 42 = .ok (.new 32, 3) := by decide +kernel
theorem dX5_init_45 : decode cX5_init 45 = .ok (.dup, 1) := by decide +kernel
theorem dX5_init_46 : decode cX5_init 46 = .ok (.aload_n 0, 1) := by decide +kernel
theorem dX5_init_47 : decode cX5_init 47 = .ok (.getfield 10, 3) := by decide +kernel
theorem dX5_init_50 : decode cX5_init 50 = .ok (.aload_n 0, 1) := by decide +kernel
theorem dX5_init_51 : decode cX5_init 51 = .ok (.getfield 28, 3) := by decide +kernel
theorem dX5_init_54 : decode cX5_init 54 = .ok (.aload_n 0, 1) := by decide +kernel
theorem dX5_init_55 : decode cX5_init 55 = .ok (.getfield 19, 3) := by decide +kernel
theorem dX5_init_58 : decode cX5_init 58 = .ok (.invokespecial 34, 3) := by decide +kernel
theorem dX5_init_61 : decode cX5_init 61 = .ok (.putfield 37, 3) := by decide +kernel
theorem dX5_init_64 : decode cX5_init 64 = .ok (.aload_n 0, 1) := by decide +kernel
theorem dX5_init_65 : decode cX5_init 65 = .ok (.new 41, 3) := by decide +kernel
theorem dX5_init_68 : decode cX5_init 68 = .ok (.dup, 1) := by decide +kernel
theorem dX5_init_69 : decode cX5_init 69 = .ok (.aload_n 0, 1) := by decide +kernel
theorem dX5_init_70 : decode cX5_init 70 = .ok (.getfield 10, 3) := by decide +kernel
theorem dX5_init_73 : decode cX5_init 73 = .ok (.invokespecial 43, 3) := by decide +kernel
theorem dX5_init_76 : decode cX5_init 76 = .ok (.putfield 44, 3) := by decide +kernel
theorem dX5_init_79 : decode cX5_init 79 = .ok (.return_, 1) := by decide +kernel
theorem dX5_addResource_0 : decode cX5_addResource 0 = .ok (.iload_n 1, 1) := by decide +kernel
theorem dX5_addResource_1 : decode cX5_addResource 1 = .ok (.iconst 0, 1) := by decide +kernel
theorem dX5_addResource_2 : decode cX5_addResource 2 = .ok (.iconst 4, 1) := by decide +kernel
theorem dX5_addResource_3 : decode cX5_addResource 3 = .ok (.invokestatic 48, 3) := by decide +kernel
theorem dX5_addResource_6 : decode cX5_addResource 6 = .ok (.ifCond .ne 13, 3) := by decide +kernel
theorem dX5_addResource_9 : decode cX5_addResource 9 = .ok (.new 52, 3) := by decide +kernel
theorem dX5_addResource_12 : decode cX5_addResource 12 = .ok (.dup, 1) := by decide +kernel
theorem dX5_addResource_13 : decode cX5_addResource 13 = .ok (.ldc 54, 2) := by decide +kernel
theorem dX5_addResource_15 : decode cX5_addResource 15 = .ok (.invokespecial 56, 3) := by decide +kernel
theorem dX5_addResource_18 : decode cX5_addResource 18 = .ok (.athrow, 1) := by decide +kernel
theorem dX5_addResource_19 : decode cX5_addResource 19 = .ok (.aload_n 0, 1) := by decide +kernel
theorem dX5_addResource_20 : decode cX5_addResource 20 = .ok (.getfield 10, 3) := by decide +kernel
theorem dX5_addResource_23 : decode cX5_addResource 23 = .ok (.getfield 59, 3) := by decide +kernel
theorem dX5_addResource_26 : decode cX5_addResource 26 = .ok (.bipush 12, 2) := by decide +kernel
theorem dX5_addResource_28 : decode cX5_addResource 28 = .ok (.if_icmp .lt 13, 3) := by decide +kernel
theorem dX5_addResource_31 : decode cX5_addResource 31 = .ok (.new 63, 3) := by decide +kernel
theorem dX5_addResource_34 : decode cX5_addResource 34 = .ok (.dup, 1) := by decide +kernel
theorem dX5_addResource_35 : decode cX5_addResource 35 = .ok (.ldc 65, 2) := by decide +kernel
theorem dX5_addResource_37 : decode cX5_addResource 37 = .ok (.invokespecial 67, 3) := by decide +kernel
theorem dX5_addResource_40 : decode cX5_addResource 40 = .ok (.athrow, 1) := by decide +kernel
theorem dX5_addResource_41 : decode cX5_addResource 41 = .ok (.aload_n 0, 1) := by decide +kernel
theorem dX5_addResource_42 : decode cX5_addResource 42 = .ok (.getfield 19, 3) := by decide +kernel
theorem dX5_addResource_45 : decode cX5_addResource 45 = .ok (.invokevirtual 68, 3) := by decide +kernel
theorem dX5_addResource_48 : decode cX5_addResource 48 = .ok (.aload_n 0, 1) := by decide +kernel
theorem dX5_addResource_49 : decode cX5_addResource 49 = .ok (.getfield 10, 3) := by decide +kernel
theorem dX5_addResource_52 : decode cX5_addResource 52 = .ok (.iload_n 1, 1) := by decide +kernel
theorem dX5_addResource_53 : decode cX5_addResource 53 = .ok (.invokevirtual 71, 3) := by decide +kernel
theorem dX5_addResource_56 : decode cX5_addResource 56 = .ok (.istore_n 2, 1) := by decide +kernel
theorem dX5_addResource_57 : decode cX5_addResource 57 = .ok (.aload_n 0, 1) := by decide +kernel
theorem dX5_addResource_58 : decode cX5_addResource 58 = .ok (.getfield 37, 3) := by decide +kernel
theorem dX5_addResource_61 : decode cX5_addResource 61 = .ok (.invokevirtual 75, 3) := by decide +kernel
theorem dX5_addResource_64 : decode cX5_addResource 64 = .ok (.pop, 1) := by decide +kernel
theorem dX5_addResource_65 : decode cX5_addResource 65 = .ok (.iload_n 2, 1) := by decide +kernel
theorem dX5_addResource_66 : decode cX5_addResource 66 = .ok (.ireturn, 1) := by decide +kernel
theorem dX5_setCapacity_0 : decode cX5_setCapacity 0 = .ok (.aload_n 0, 1) := by decide +kernel
theorem dX5_setCapacity_1 : decode cX5_setCapacity 1 = .ok (.iload_n 1, 1) := by decide +kernel
theorem dX5_setCapacity_2 : decode cX5_setCapacity 2 = .ok (.invokevirtual 79, 3) := by decide +kernel
theorem dX5_setCapacity_5 : decode cX5_setCapacity 5 = .ok (.iload_n 2, 1) := by decide +kernel
theorem dX5_setCapacity_6 : decode cX5_setCapacity 6 = .ok (.iconst 0, 1) := by decide +kernel
theorem dX5_setCapacity_7 : decode cX5_setCapacity 7 = .ok (.iconst 4, 1) := by decide +kernel
theorem dX5_setCapacity_8 : decode cX5_setCapacity 8 = .ok (.invokestatic 48, 3) := by decide +kernel
theorem dX5_setCapacity_11 : decode cX5_setCapacity 11 = .ok (.ifCond .ne 13, 3) := by decide +kernel
theorem dX5_setCapacity_14 : decode cX5_setCapacity 14 = .ok (.new 52, 3) := by decide +kernel
theorem dX5_setCapacity_17 : decode cX5_setCapacity 17 = .ok (.dup, 1) := by decide +kernel
theorem dX5_setCapacity_18 : decode cX5_setCapacity 18 = .ok (.ldc 54, 2) := by decide +kernel
theorem dX5_setCapacity_20 : decode cX5_setCapacity 20 = .ok (.invokespecial 56, 3) := by decide +kernel
theorem dX5_setCapacity_23 : decode cX5_setCapacity 23 = .ok (.athrow, 1) := by decide +kernel
theorem dX5_setCapacity_24 : decode cX5_setCapacity 24 = .ok (.aload_n 0, 1) := by decide +kernel
theorem dX5_setCapacity_25 : decode cX5_setCapacity 25 = .ok (.getfield 19, 3) := by decide +kernel
theorem dX5_setCapacity_28 : decode cX5_setCapacity 28 = .ok (.invokevirtual 68, 3) := by decide +kernel
theorem dX5_setCapacity_31 : decode cX5_setCapacity 31 = .ok (.aload_n 0, 1) := by decide +kernel
theorem dX5_setCapacity_32 : decode cX5_setCapacity 32 = .ok (.getfield 10, 3) := by decide +kernel
theorem dX5_setCapacity_35 : decode cX5_setCapacity 35 = .ok (.getfield 83, 3) := by decide +kernel
theorem dX5_setCapacity_38 : decode cX5_setCapacity 38 = .ok (.iload_n 1, 1) := by decide +kernel
theorem dX5_setCapacity_39 : decode cX5_setCapacity 39 = .ok (.iload_n 2, 1) := by decide +kernel
theorem dX5_setCapacity_40 : decode cX5_setCapacity 40 = .ok (.iastore, 1) := by decide +kernel
theorem dX5_setCapacity_41 : decode cX5_setCapacity 41 = .ok (.aload_n 0, 1) := by decide +kernel
theorem dX5_setCapacity_42 : decode cX5_setCapacity 42 = .ok (.getfield 10, 3) := by decide +kernel
theorem dX5_setCapacity_45 : decode cX5_setCapacity 45 = .ok (.iload_n 1, 1) := by decide +kernel
theorem dX5_setCapacity_46 : decode cX5_setCapacity 46 = .ok (.invokevirtual 87, 3) := by decide +kernel
theorem dX5_setCapacity_49 : decode cX5_setCapacity 49 = .ok (.istore_n 3, 1) := by decide +kernel
theorem dX5_setCapacity_50 : decode cX5_setCapacity 50 = .ok (.aload_n 0, 1) := by decide +kernel
theorem dX5_setCapacity_51 : decode cX5_setCapacity 51 = .ok (.getfield 37, 3) := by decide +kernel
theorem dX5_setCapacity_54 : decode cX5_setCapacity 54 = .ok (.invokevirtual 75, 3) := by decide +kernel
theorem dX5_setCapacity_57 : decode cX5_setCapacity 57 = .ok (.pop, 1) := by decide +kernel
theorem dX5_setCapacity_58 : decode cX5_setCapacity 58 = .ok (.iload_n 3, 1) := by decide +kernel
theorem dX5_setCapacity_59 : decode cX5_setCapacity 59 = .ok (.ireturn, 1) := by decide +kernel
theorem dX5_setGroup_0 : decode cX5_setGroup 0 = .ok (.aload_n 0, 1) := by decide +kernel
theorem dX5_setGroup_1 : decode cX5_setGroup 1 = .ok (.iload_n 1, 1) := by decide +kernel
theorem dX5_setGroup_2 : decode cX5_setGroup 2 = .ok (.invokevirtual 90, 3) := by decide +kernel
theorem dX5_setGroup_5 : decode cX5_setGroup 5 = .ok (.iload_n 2, 1) := by decide +kernel
theorem dX5_setGroup_6 : decode cX5_setGroup 6 = .ok (.iconst 0, 1) := by decide +kernel
theorem dX5_setGroup_7 : decode cX5_setGroup 7 = .ok (.bipush 40, 2) := by decide +kernel
theorem dX5_setGroup_9 : decode cX5_setGroup 9 = .ok (.invokestatic 48, 3) := by decide +kernel
theorem dX5_setGroup_12 : decode cX5_setGroup 12 = .ok (.ifCond .ne 13, 3) := by decide +kernel
theorem dX5_setGroup_15 : decode cX5_setGroup 15 = .ok (.new 52, 3) := by decide +kernel
theorem dX5_setGroup_18 : decode cX5_setGroup 18 = .ok (.dup, 1) := by decide +kernel
theorem dX5_setGroup_19 : decode cX5_setGroup 19 = .ok (.ldc 93, 2) := by decide +kernel
theorem dX5_setGroup_21 : decode cX5_setGroup 21 = .ok (.invokespecial 56, 3) := by decide +kernel
theorem dX5_setGroup_24 : decode cX5_setGroup 24 = .ok (.athrow, 1) := by decide +kernel
theorem dX5_setGroup_25 : decode cX5_setGroup 25 = .ok (.iload_n 3, 1) := by decide +kernel
theorem dX5_setGroup_26 : decode cX5_setGroup 26 = .ok (.iconst 1, 1) := by decide +kernel
theorem dX5_setGroup_27 : decode cX5_setGroup 27 = .ok (.bipush 10, 2) := by decide +kernel
theorem dX5_setGroup_29 : decode cX5_setGroup 29 = .ok (.invokestatic 48, 3) := by decide +kernel
theorem dX5_setGroup_32 : decode cX5_setGroup 32 = .ok (.ifCond .ne 13, 3) := by decide +kernel
theorem dX5_setGroup_35 : decode cX5_setGroup 35 = .ok (.new 52, 3) := by decide +kernel
theorem dX5_setGroup_38 : decode cX5_setGroup 38 = .ok (.dup, 1) := by decide +kernel
theorem dX5_setGroup_39 : decode cX5_setGroup 39 = .ok (.ldc 95, 2) := by decide +kernel
theorem dX5_setGroup_41 : decode cX5_setGroup 41 = .ok (.invokespecial 56, 3) := by decide +kernel
theorem dX5_setGroup_44 : decode cX5_setGroup 44 = .ok (.athrow, 1) := by decide +kernel
theorem dX5_setGroup_45 : decode cX5_setGroup 45 = .ok (.aload_n 0, 1) := by decide +kernel
theorem dX5_setGroup_46 : decode cX5_setGroup 46 = .ok (.getfield 19, 3) := by decide +kernel
theorem dX5_setGroup_49 : decode cX5_setGroup 49 = .ok (.invokevirtual 68, 3) := by decide +kernel
theorem dX5_setGroup_52 : decode cX5_setGroup 52 = .ok (.aload_n 0, 1) := by decide +kernel
theorem dX5_setGroup_53 : decode cX5_setGroup 53 = .ok (.getfield 10, 3) := by decide +kernel
theorem dX5_setGroup_56 : decode cX5_setGroup 56 = .ok (.getfield 97, 3) := by decide +kernel
theorem dX5_setGroup_59 : decode cX5_setGroup 59 = .ok (.iload_n 1, 1) := by decide +kernel
theorem dX5_setGroup_60 : decode cX5_setGroup 60 = .ok (.iload_n 2, 1) := by decide +kernel
theorem dX5_setGroup_61 : decode cX5_setGroup 61 = .ok (.iastore, 1) := by decide +kernel
theorem dX5_setGroup_62 : decode cX5_setGroup 62 = .ok (.aload_n 0, 1) := by decide +kernel
theorem dX5_setGroup_63 : decode cX5_setGroup 63 = .ok (.getfield 10, 3) := by decide +kernel
theorem dX5_setGroup_66 : decode cX5_setGroup 66 = .ok (.getfield 100, 3) := by decide +kernel
theorem dX5_setGroup_69 : decode cX5_setGroup 69 = .ok (.iload_n 1, 1) := by decide +kernel
theorem dX5_setGroup_70 : decode cX5_setGroup 70 = .ok (.iload_n 3, 1) := by decide +kernel
theorem dX5_setGroup_71 : decode cX5_setGroup 71 = .ok (.iastore, 1) := by decide +kernel
theorem dX5_setGroup_72 : decode cX5_setGroup 72 = .ok (.aload_n 0, 1) := by decide +kernel
theorem dX5_setGroup_73 : decode cX5_setGroup 73 = .ok (.getfield 10, 3) := by decide +kernel
theorem dX5_setGroup_76 : decode cX5_setGroup 76 = .ok (.iload_n 1, 1) := by decide +kernel
theorem dX5_setGroup_77 : decode cX5_setGroup 77 = .ok (.invokevirtual 103, 3) := by decide +kernel
theorem dX5_setGroup_80 : decode cX5_setGroup 80 = .ok (.istore 4, 2) := by decide +kernel
theorem dX5_setGroup_82 : decode cX5_setGroup 82 = .ok (.aload_n 0, 1) := by decide +kernel
theorem dX5_setGroup_83 : decode cX5_setGroup 83 = .ok (.getfield 37, 3) := by decide +kernel
theorem dX5_setGroup_86 : decode cX5_setGroup 86 = .ok (.invokevirtual 75, 3) := by decide +kernel
theorem dX5_setGroup_89 : decode cX5_setGroup 89 = .ok (.pop, 1) := by decide +kernel
theorem dX5_setGroup_90 : decode cX5_setGroup 90 = .ok (.iload 4, 2) := by decide +kernel
theorem dX5_setGroup_92 : decode cX5_setGroup 92 = .ok (.ireturn, 1) := by decide +kernel
theorem dX5_setLimits_0 : decode cX5_setLimits 0 = .ok (.iload_n 1, 1) := by decide +kernel
theorem dX5_setLimits_1 : decode cX5_setLimits 1 = .ok (.iconst 0, 1) := by decide +kernel
theorem dX5_setLimits_2 : decode cX5_setLimits 2 = .ok (.iconst 5, 1) := by decide +kernel
theorem dX5_setLimits_3 : decode cX5_setLimits 3 = .ok (.invokestatic 48, 3) := by decide +kernel
theorem dX5_setLimits_6 : decode cX5_setLimits 6 = .ok (.ifCond .ne 13, 3) := by decide +kernel
theorem dX5_setLimits_9 : decode cX5_setLimits 9 = .ok (.new 52, 3) := by decide +kernel
theorem dX5_setLimits_12 : decode cX5_setLimits 12 = .ok (.dup, 1) := by decide +kernel
theorem dX5_setLimits_13 : decode cX5_setLimits 13 = .ok (.ldc 106, 2) := by decide +kernel
theorem dX5_setLimits_15 : decode cX5_setLimits 15 = .ok (.invokespecial 56, 3) := by decide +kernel
theorem dX5_setLimits_18 : decode cX5_setLimits 18 = .ok (.athrow, 1) := by decide +kernel
theorem dX5_setLimits_19 : decode cX5_setLimits 19 = .ok (.iload_n 2, 1) := by decide +kernel
theorem dX5_setLimits_20 : decode cX5_setLimits 20 = .ok (.iconst 0, 1) := by decide +kernel
theorem dX5_setLimits_21 : decode cX5_setLimits 21 = .ok (.bipush 20, 2) := by decide +kernel
theorem dX5_setLimits_23 : decode cX5_setLimits 23 = .ok (.invokestatic 48, 3) := by decide +kernel
theorem dX5_setLimits_26 : decode cX5_setLimits 26 = .ok (.ifCond .ne 13, 3) := by decide +kernel
theorem dX5_setLimits_29 : decode cX5_setLimits 29 = .ok (.new 52, 3) := by decide +kernel
theorem dX5_setLimits_32 : decode cX5_setLimits 32 = .ok (.dup, 1) := by decide +kernel
theorem dX5_setLimits_33 : decode cX5_setLimits 33 = .ok (.ldc 108, 2) := by decide +kernel
theorem dX5_setLimits_35 : decode cX5_setLimits 35 = .ok (.invokespecial 56, 3) := by decide +kernel
theorem dX5_setLimits_38 : decode cX5_setLimits 38 = .ok (.athrow, 1) := by decide +kernel
theorem dX5_setLimits_39 : decode cX5_setLimits 39 = .ok (.aload_n 0, 1) := by decide +kernel
theorem dX5_setLimits_40 : decode cX5_setLimits 40 = .ok (.getfield 19, 3) := by decide +kernel
theorem dX5_setLimits_43 : decode cX5_setLimits 43 = .ok (.invokevirtual 68, 3) := by decide +kernel
theorem dX5_setLimits_46 : decode cX5_setLimits 46 = .ok (.aload_n 0, 1) := by decide +kernel
theorem dX5_setLimits_47 : decode cX5_setLimits 47 = .ok (.getfield 10, 3) := by decide +kernel
theorem dX5_setLimits_50 : decode cX5_setLimits 50 = .ok (.iload_n 1, 1) := by decide +kernel
theorem dX5_setLimits_51 : decode cX5_setLimits 51 = .ok (.putfield 110, 3) := by decide +kernel
theorem dX5_setLimits_54 : decode cX5_setLimits 54 = .ok (.aload_n 0, 1) := by decide +kernel
theorem dX5_setLimits_55 : decode cX5_setLimits 55 = .ok (.getfield 10, 3) := by decide +kernel
theorem dX5_setLimits_58 : decode cX5_setLimits 58 = .ok (.iload_n 2, 1) := by decide +kernel
theorem dX5_setLimits_59 : decode cX5_setLimits 59 = .ok (.putfield 113, 3) := by decide +kernel
theorem dX5_setLimits_62 : decode cX5_setLimits 62 = .ok (.aload_n 0, 1) := by decide +kernel
theorem dX5_setLimits_63 : decode cX5_setLimits 63 = .ok (.getfield 37, 3) := by decide +kernel
theorem dX5_setLimits_66 : decode cX5_setLimits 66 = .ok (.invokevirtual 75, 3) := by decide +kernel
theorem dX5_setLimits_69 : decode cX5_setLimits 69 = .ok (.ireturn, 1) := by decide +kernel
theorem dX5_arrive_0 : decode cX5_arrive 0 = .ok (.aload_n 0, 1) := by decide +kernel
theorem dX5_arrive_1 : decode cX5_arrive 1 = .ok (.iload_n 1, 1) := by decide +kernel
theorem dX5_arrive_2 : decode cX5_arrive 2 = .ok (.invokevirtual 90, 3) := by decide +kernel
theorem dX5_arrive_5 : decode cX5_arrive 5 = .ok (.aload_n 0, 1) := by decide +kernel
theorem dX5_arrive_6 : decode cX5_arrive 6 = .ok (.iload_n 2, 1) := by decide +kernel
theorem dX5_arrive_7 : decode cX5_arrive 7 = .ok (.invokevirtual 116, 3) := by decide +kernel
theorem dX5_arrive_10 : decode cX5_arrive 10 = .ok (.aload_n 0, 1) := by decide +kernel
theorem dX5_arrive_11 : decode cX5_arrive 11 = .ok (.getfield 10, 3) := by decide +kernel
theorem dX5_arrive_14 : decode cX5_arrive 14 = .ok (.getfield 119, 3) := by decide +kernel
theorem dX5_arrive_17 : decode cX5_arrive 17 = .ok (.bipush 40, 2) := by decide +kernel
theorem dX5_arrive_19 : decode cX5_arrive 19 = .ok (.if_icmp .lt 13, 3) := by decide +kernel
theorem dX5_arrive_22 : decode cX5_arrive 22 = .ok (.new 63, 3) := by decide +kernel
theorem dX5_arrive_25 : decode cX5_arrive 25 = .ok (.dup, 1) := by decide +kernel
theorem dX5_arrive_26 : decode cX5_arrive 26 = .ok (.ldc 122, 2) := by decide +kernel
theorem dX5_arrive_28 : decode cX5_arrive 28 = .ok (.invokespecial 67, 3) := by decide +kernel
theorem dX5_arrive_31 : decode cX5_arrive 31 = .ok (.athrow, 1) := by decide +kernel
theorem dX5_arrive_32 : decode cX5_arrive 32 = .ok (.aload_n 0, 1) := by decide +kernel
theorem dX5_arrive_33 : decode cX5_arrive 33 = .ok (.getfield 19, 3) := by decide +kernel
theorem dX5_arrive_36 : decode cX5_arrive 36 = .ok (.invokevirtual 68, 3) := by decide +kernel
theorem dX5_arrive_39 : decode cX5_arrive 39 = .ok (.aload_n 0, 1) := by decide +kernel
theorem dX5_arrive_40 : decode cX5_arrive 40 = .ok (.getfield 10, 3) := by decide +kernel
theorem dX5_arrive_43 : decode cX5_arrive 43 = .ok (.iload_n 1, 1) := by decide +kernel
theorem dX5_arrive_44 : decode cX5_arrive 44 = .ok (.iload_n 2, 1) := by decide +kernel
theorem dX5_arrive_45 : decode cX5_arrive 45 = .ok (.invokevirtual 124, 3) := by decide +kernel
theorem dX5_arrive_48 : decode cX5_arrive 48 = .ok (.istore_n 3, 1) := by decide +kernel
theorem dX5_arrive_49 : decode cX5_arrive 49 = .ok (.aload_n 0, 1) := by decide +kernel
theorem dX5_arrive_50 : decode cX5_arrive 50 = .ok (.getfield 37, 3) := by decide +kernel
theorem dX5_arrive_53 : decode cX5_arrive 53 = .ok (.iload_n 3, 1) := by decide +kernel
theorem dX5_arrive_54 : decode cX5_arrive 54 = .ok (.invokevirtual 128, 3) := by decide +kernel
theorem dX5_arrive_57 : decode cX5_arrive 57 = .ok (.pop, 1) := by decide +kernel
theorem dX5_arrive_58 : decode cX5_arrive 58 = .ok (.iload_n 3, 1) := by decide +kernel
theorem dX5_arrive_59 : decode cX5_arrive 59 = .ok (.ireturn, 1) := by decide +kernel
theorem dX5_depart_0 : decode cX5_depart 0 = .ok (.aload_n 0, 1) := by decide +kernel
theorem dX5_depart_1 : decode cX5_depart 1 = .ok (.iload_n 1, 1) := by decide +kernel
theorem dX5_depart_2 : decode cX5_depart 2 = .ok (.invokevirtual 132, 3) := by decide +kernel
theorem dX5_depart_5 : decode cX5_depart 5 = .ok (.aload_n 0, 1) := by decide +kernel
theorem dX5_depart_6 : decode cX5_depart 6 = .ok (.getfield 19, 3) := by decide +kernel
theorem dX5_depart_9 : decode cX5_depart 9 = .ok (.invokevirtual 68, 3) := by decide +kernel
theorem dX5_depart_12 : decode cX5_depart 12 = .ok (.aload_n 0, 1) := by decide +kernel
theorem dX5_depart_13 : decode cX5_depart 13 = .ok (.getfield 10, 3) := by decide +kernel
theorem dX5_depart_16 : decode cX5_depart 16 = .ok (.iload_n 1, 1) := by decide +kernel
theorem dX5_depart_17 : decode cX5_depart 17 = .ok (.invokevirtual 135, 3) := by decide +kernel
theorem dX5_depart_20 : decode cX5_depart 20 = .ok (.aload_n 0, 1) := by decide +kernel
theorem dX5_depart_21 : decode cX5_depart 21 = .ok (.getfield 37, 3) := by decide +kernel
theorem dX5_depart_24 : decode cX5_depart 24 = .ok (.invokevirtual 75, 3) := by decide +kernel
theorem dX5_depart_27 : decode cX5_depart 27 = .ok (.ireturn, 1) := by decide +kernel
theorem dX5_setAccepts_0 : decode cX5_setAccepts 0 = .ok (.aload_n 0, 1) := by decide +kernel
theorem dX5_setAccepts_1 : decode cX5_setAccepts 1 = .ok (.iload_n 1, 1) := by decide +kernel
theorem dX5_setAccepts_2 : decode cX5_setAccepts 2 = .ok (.invokevirtual 132, 3) := by decide +kernel
theorem dX5_setAccepts_5 : decode cX5_setAccepts 5 = .ok (.aload_n 0, 1) := by decide +kernel
theorem dX5_setAccepts_6 : decode cX5_setAccepts 6 = .ok (.iload_n 2, 1) := by decide +kernel
theorem dX5_setAccepts_7 : decode cX5_setAccepts 7 = .ok (.invokevirtual 116, 3) := by decide +kernel
theorem dX5_setAccepts_10 : decode cX5_setAccepts 10 = .ok (.aload_n 0, 1) := by decide +kernel
theorem dX5_setAccepts_11 : decode cX5_setAccepts 11 = .ok (.getfield 19, 3) := by decide +kernel
theorem dX5_setAccepts_14 : decode cX5_setAccepts 14 = .ok (.invokevirtual 68, 3) := by decide +kernel
theorem dX5_setAccepts_17 : decode cX5_setAccepts 17 = .ok (.aload_n 0, 1) := by decide +kernel
theorem dX5_setAccepts_18 : decode cX5_setAccepts 18 = .ok (.getfield 10, 3) := by decide +kernel
theorem dX5_setAccepts_21 : decode cX5_setAccepts 21 = .ok (.iload_n 1, 1) := by decide +kernel
theorem dX5_setAccepts_22 : decode cX5_setAccepts 22 = .ok (.iload_n 2, 1) := by decide +kernel
theorem dX5_setAccepts_23 : decode cX5_setAccepts 23 = .ok (.invokevirtual 138, 3) := by decide +kernel
theorem dX5_setAccepts_26 : decode cX5_setAccepts 26 = .ok (.aload_n 0, 1) := by decide +kernel
theorem dX5_setAccepts_27 : decode cX5_setAccepts 27 = .ok (.getfield 37, 3) := by decide +kernel
theorem dX5_setAccepts_30 : decode cX5_setAccepts 30 = .ok (.invokevirtual 75, 3) := by decide +kernel
theorem dX5_setAccepts_33 : decode cX5_setAccepts 33 = .ok (.pop, 1) := by decide +kernel
theorem dX5_setAccepts_34 : decode cX5_setAccepts 34 = .ok (.aload_n 0, 1) := by decide +kernel
theorem dX5_setAccepts_35 : decode cX5_setAccepts 35 = .ok (.getfield 10, 3) := by decide +kernel
theorem dX5_setAccepts_38 : decode cX5_setAccepts 38 = .ok (.iload_n 1, 1) := by decide +kernel
theorem dX5_setAccepts_39 : decode cX5_setAccepts 39 = .ok (.invokevirtual 142, 3) := by decide +kernel
theorem dX5_setAccepts_42 : decode cX5_setAccepts 42 = .ok (.ireturn, 1) := by decide +kernel
theorem dX5_resourceCount_0 : decode cX5_resourceCount 0 = .ok (.aload_n 0, 1) := by decide +kernel
theorem dX5_resourceCount_1 : decode cX5_resourceCount 1 = .ok (.getfield 10, 3) := by decide +kernel
theorem dX5_resourceCount_4 : decode cX5_resourceCount 4 = .ok (.getfield 59, 3) := by decide +kernel
theorem dX5_resourceCount_7 : decode cX5_resourceCount 7 = .ok (.ireturn, 1) := by decide +kernel
theorem dX5_arrivedCount_0 : decode cX5_arrivedCount 0 = .ok (.aload_n 0, 1) := by decide +kernel
theorem dX5_arrivedCount_1 : decode cX5_arrivedCount 1 = .ok (.getfield 10, 3) := by decide +kernel
theorem dX5_arrivedCount_4 : decode cX5_arrivedCount 4 = .ok (.getfield 119, 3) := by decide +kernel
theorem dX5_arrivedCount_7 : decode cX5_arrivedCount 7 = .ok (.ireturn, 1) := by decide +kernel
theorem dX5_assignedCount_0 : decode cX5_assignedCount 0 = .ok (.aload_n 0, 1) := by decide +kernel
theorem dX5_assignedCount_1 : decode cX5_assignedCount 1 = .ok (.getfield 10, 3) := by decide +kernel
theorem dX5_assignedCount_4 : decode cX5_assignedCount 4 = .ok (.invokevirtual 145, 3) := by decide +kernel
theorem dX5_assignedCount_7 : decode cX5_assignedCount 7 = .ok (.ireturn, 1) := by decide +kernel
theorem dX5_waitingCount_0 : decode cX5_waitingCount 0 = .ok (.aload_n 0, 1) := by decide +kernel
theorem dX5_waitingCount_1 : decode cX5_waitingCount 1 = .ok (.getfield 10, 3) := by decide +kernel
theorem dX5_waitingCount_4 : decode cX5_waitingCount 4 = .ok (.invokevirtual 148, 3) := by decide +kernel
theorem dX5_waitingCount_7 : decode cX5_waitingCount 7 = .ok (.ireturn, 1) := by decide +kernel
theorem dX5_assignedOf_0 : decode cX5_assignedOf 0 = .ok (.aload_n 0, 1) := by decide +kernel
theorem dX5_assignedOf_1 : decode cX5_assignedOf 1 = .ok (.iload_n 1, 1) := by decide +kernel
theorem dX5_assignedOf_2 : decode cX5_assignedOf 2 = .ok (.invokevirtual 90, 3) := by decide +kernel
theorem dX5_assignedOf_5 : decode cX5_assignedOf 5 = .ok (.aload_n 0, 1) := by decide +kernel
theorem dX5_assignedOf_6 : decode cX5_assignedOf 6 = .ok (.getfield 10, 3) := by decide +kernel
theorem dX5_assignedOf_9 : decode cX5_assignedOf 9 = .ok (.getfield 151, 3) := by decide +kernel
theorem dX5_assignedOf_12 : decode cX5_assignedOf 12 = .ok (.iload_n 1, 1) := by decide +kernel
theorem dX5_assignedOf_13 : decode cX5_assignedOf 13 = .ok (.iaload, 1) := by decide +kernel
theorem dX5_assignedOf_14 : decode cX5_assignedOf 14 = .ok (.ireturn, 1) := by decide +kernel
theorem dX5_load_0 : decode cX5_load 0 = .ok (.aload_n 0, 1) := by decide +kernel
theorem dX5_load_1 : decode cX5_load 1 = .ok (.iload_n 1, 1) := by decide +kernel
theorem dX5_load_2 : decode cX5_load 2 = .ok (.invokevirtual 79, 3) := by decide +kernel
theorem dX5_load_5 : decode cX5_load 5 = .ok (.aload_n 0, 1) := by decide +kernel
theorem dX5_load_6 : decode cX5_load 6 = .ok (.getfield 10, 3) := by decide +kernel
theorem dX5_load_9 : decode cX5_load 9 = .ok (.getfield 154, 3) := by decide +kernel
theorem dX5_load_12 : decode cX5_load 12 = .ok (.iload_n 1, 1) := by decide +kernel
theorem dX5_load_13 : decode cX5_load 13 = .ok (.iaload, 1) := by decide +kernel
theorem dX5_load_14 : decode cX5_load 14 = .ok (.ireturn, 1) := by decide +kernel
theorem dX5_state_0 : decode cX5_state 0 = .ok (.aload_n 0, 1) := by decide +kernel
theorem dX5_state_1 : decode cX5_state 1 = .ok (.iload_n 1, 1) := by decide +kernel
theorem dX5_state_2 : decode cX5_state 2 = .ok (.invokevirtual 157, 3) := by decide +kernel
theorem dX5_state_5 : decode cX5_state 5 = .ok (.aload_n 0, 1) := by decide +kernel
theorem dX5_state_6 : decode cX5_state 6 = .ok (.getfield 10, 3) := by decide +kernel
theorem dX5_state_9 : decode cX5_state 9 = .ok (.iload_n 1, 1) := by decide +kernel
theorem dX5_state_10 : decode cX5_state 10 = .ok (.invokevirtual 160, 3) := by decide +kernel
theorem dX5_state_13 : decode cX5_state 13 = .ok (.ireturn, 1) := by decide +kernel
theorem dX5_resourceOf_0 : decode cX5_resourceOf 0 = .ok (.aload_n 0, 1) := by decide +kernel
theorem dX5_resourceOf_1 : decode cX5_resourceOf 1 = .ok (.iload_n 1, 1) := by decide +kernel
theorem dX5_resourceOf_2 : decode cX5_resourceOf 2 = .ok (.invokevirtual 157, 3) := by decide +kernel
theorem dX5_resourceOf_5 : decode cX5_resourceOf 5 = .ok (.aload_n 0, 1) := by decide +kernel
theorem dX5_resourceOf_6 : decode cX5_resourceOf 6 = .ok (.getfield 10, 3) := by decide +kernel
theorem dX5_resourceOf_9 : decode cX5_resourceOf 9 = .ok (.iload_n 1, 1) := by decide +kernel
theorem dX5_resourceOf_10 : decode cX5_resourceOf 10 = .ok (.invokevirtual 142, 3) := by decide +kernel
theorem dX5_resourceOf_13 : decode cX5_resourceOf 13 = .ok (.ifCond .ne 13, 3) := by decide +kernel
theorem dX5_resourceOf_16 : decode cX5_resourceOf 16 = .ok (.new 163, 3) := by decide +kernel
theorem dX5_resourceOf_19 : decode cX5_resourceOf 19 = .ok (.dup, 1) := by decide +kernel
theorem dX5_resourceOf_20 : decode cX5_resourceOf 20 = .ok (.ldc 165, 2) := by decide +kernel
theorem dX5_resourceOf_22 : decode cX5_resourceOf 22 = .ok (.invokespecial 167, 3) := by decide +kernel
theorem dX5_resourceOf_25 : decode cX5_resourceOf 25 = .ok (.athrow, 1) := by decide +kernel
theorem dX5_resourceOf_26 : decode cX5_resourceOf 26 = .ok (.aload_n 0, 1) := by decide +kernel
theorem dX5_resourceOf_27 : decode cX5_resourceOf 27 = .ok (.getfield 10, 3) := by decide +kernel
theorem dX5_resourceOf_30 : decode cX5_resourceOf 30 = .ok (.getfield 168, 3) := by decide +kernel
theorem dX5_resourceOf_33 : decode cX5_resourceOf 33 = .ok (.iload_n 1, 1) := by decide +kernel
theorem dX5_resourceOf_34 : decode cX5_resourceOf 34 = .ok (.iaload, 1) := by decide +kernel
theorem dX5_resourceOf_35 : decode cX5_resourceOf 35 = .ok (.ireturn, 1) := by decide +kernel
theorem dX5_movesOf_0 : decode cX5_movesOf 0 = .ok (.aload_n 0, 1) := by decide +kernel
theorem dX5_movesOf_1 : decode cX5_movesOf 1 = .ok (.iload_n 1, 1) := by decide +kernel
theorem dX5_movesOf_2 : decode cX5_movesOf 2 = .ok (.invokevirtual 157, 3) := by decide +kernel
theorem dX5_movesOf_5 : decode cX5_movesOf 5 = .ok (.aload_n 0, 1) := by decide +kernel
theorem dX5_movesOf_6 : decode cX5_movesOf 6 = .ok (.getfield 10, 3) := by decide +kernel
theorem dX5_movesOf_9 : decode cX5_movesOf 9 = .ok (.getfield 171, 3) := by decide +kernel
theorem dX5_movesOf_12 : decode cX5_movesOf 12 = .ok (.iload_n 1, 1) := by decide +kernel
theorem dX5_movesOf_13 : decode cX5_movesOf 13 = .ok (.iaload, 1) := by decide +kernel
theorem dX5_movesOf_14 : decode cX5_movesOf 14 = .ok (.ireturn, 1) := by decide +kernel
theorem dX5_moveCount_0 : decode cX5_moveCount 0 = .ok (.aload_n 0, 1) := by decide +kernel
theorem dX5_moveCount_1 : decode cX5_moveCount 1 = .ok (.getfield 19, 3) := by decide +kernel
theorem dX5_moveCount_4 : decode cX5_moveCount 4 = .ok (.getfield 174, 3) := by decide +kernel
theorem dX5_moveCount_7 : decode cX5_moveCount 7 = .ok (.ireturn, 1) := by decide +kernel
theorem dX5_movedRequest_0 : decode cX5_movedRequest 0 = .ok (.aload_n 0, 1) := by decide +kernel
theorem dX5_movedRequest_1 : decode cX5_movedRequest 1 = .ok (.iload_n 1, 1) := by decide +kernel
theorem dX5_movedRequest_2 : decode cX5_movedRequest 2 = .ok (.invokevirtual 177, 3) := by decide +kernel
theorem dX5_movedRequest_5 : decode cX5_movedRequest 5 = .ok (.aload_n 0, 1) := by decide +kernel
theorem dX5_movedRequest_6 : decode cX5_movedRequest 6 = .ok (.getfield 19, 3) := by decide +kernel
theorem dX5_movedRequest_9 : decode cX5_movedRequest 9 = .ok (.getfield 180, 3) := by decide +kernel
theorem dX5_movedRequest_12 : decode cX5_movedRequest 12 = .ok (.iload_n 1, 1) := by decide +kernel
theorem dX5_movedRequest_13 : decode cX5_movedRequest 13 = .ok (.iaload, 1) := by decide +kernel
theorem dX5_movedRequest_14 : decode cX5_movedRequest 14 = .ok (.ireturn, 1) := by decide +kernel
theorem dX5_movedTo_0 : decode cX5_movedTo 0 = .ok (.aload_n 0, 1) := by decide +kernel
theorem dX5_movedTo_1 : decode cX5_movedTo 1 = .ok (.iload_n 1, 1) := by decide +kernel
theorem dX5_movedTo_2 : decode cX5_movedTo 2 = .ok (.invokevirtual 177, 3) := by decide +kernel
theorem dX5_movedTo_5 : decode cX5_movedTo 5 = .ok (.aload_n 0, 1) := by decide +kernel
theorem dX5_movedTo_6 : decode cX5_movedTo 6 = .ok (.getfield 19, 3) := by decide +kernel
theorem dX5_movedTo_9 : decode cX5_movedTo 9 = .ok (.getfield 183, 3) := by decide +kernel
theorem dX5_movedTo_12 : decode cX5_movedTo 12 = .ok (.iload_n 1, 1) := by decide +kernel
theorem dX5_movedTo_13 : decode cX5_movedTo 13 = .ok (.iaload, 1) := by decide +kernel
theorem dX5_movedTo_14 : decode cX5_movedTo 14 = .ok (.ireturn, 1) := by decide +kernel
theorem dX5_movesNeeded_0 : decode cX5_movesNeeded 0 = .ok (.aload_n 0, 1) := by decide +kernel
theorem dX5_movesNeeded_1 : decode cX5_movesNeeded 1 = .ok (.iload_n 1, 1) := by decide +kernel
theorem dX5_movesNeeded_2 : decode cX5_movesNeeded 2 = .ok (.invokevirtual 157, 3) := by decide +kernel
theorem dX5_movesNeeded_5 : decode cX5_movesNeeded 5 = .ok (.aload_n 0, 1) := by decide +kernel
theorem dX5_movesNeeded_6 : decode cX5_movesNeeded 6 = .ok (.getfield 10, 3) := by decide +kernel
theorem dX5_movesNeeded_9 : decode cX5_movesNeeded 9 = .ok (.iload_n 1, 1) := by decide +kernel
theorem dX5_movesNeeded_10 : decode cX5_movesNeeded 10 = .ok (.invokevirtual 186, 3) := by decide +kernel
theorem dX5_movesNeeded_13 : decode cX5_movesNeeded 13 = .ok (.ifCond .ne 13, 3) := by decide +kernel
theorem dX5_movesNeeded_16 : decode cX5_movesNeeded 16 = .ok (.new 163, 3) := by decide +kernel
theorem dX5_movesNeeded_19 : decode cX5_movesNeeded 19 = .ok (.dup, 1) := by decide +kernel
theorem dX5_movesNeeded_20 : decode cX5_movesNeeded 20 = .ok (.ldc 189, 2) := by decide +kernel
theorem dX5_movesNeeded_22 : decode cX5_movesNeeded 22 = .ok (.invokespecial 167, 3) := by decide +kernel
theorem dX5_movesNeeded_25 : decode cX5_movesNeeded 25 = .ok (.athrow, 1) := by decide +kernel
theorem dX5_movesNeeded_26 : decode cX5_movesNeeded 26 = .ok (.aload_n 0, 1) := by decide +kernel
theorem dX5_movesNeeded_27 : decode cX5_movesNeeded 27 = .ok (.getfield 28, 3) := by decide +kernel
theorem dX5_movesNeeded_30 : decode cX5_movesNeeded 30 = .ok (.iload_n 1, 1) := by decide +kernel
theorem dX5_movesNeeded_31 : decode cX5_movesNeeded 31 = .ok (.invokevirtual 191, 3) := by decide +kernel
theorem dX5_movesNeeded_34 : decode cX5_movesNeeded 34 = .ok (.iconst 1, 1) := by decide +kernel
theorem dX5_movesNeeded_35 : decode cX5_movesNeeded 35 = .ok (.isub, 1) := by decide +kernel
theorem dX5_movesNeeded_36 : decode cX5_movesNeeded 36 = .ok (.ireturn, 1) := by decide +kernel
theorem dX5_greatestPossible_0 : decode cX5_greatestPossible 0 = .ok (.aload_n 0, 1) := by decide +kernel
theorem dX5_greatestPossible_1 : decode cX5_greatestPossible 1 = .ok (.getfield 44, 3) := by decide +kernel
theorem dX5_greatestPossible_4 : decode cX5_greatestPossible 4 = .ok (.iconst (-1), 1) := by decide +kernel
theorem dX5_greatestPossible_5 : decode cX5_greatestPossible 5 = .ok (.invokevirtual 194, 3) := by decide +kernel
theorem dX5_greatestPossible_8 : decode cX5_greatestPossible 8 = .ok (.ireturn, 1) := by decide +kernel
theorem dX5_gainBy_0 : decode cX5_gainBy 0 = .ok (.aload_n 0, 1) := by decide +kernel
theorem dX5_gainBy_1 : decode cX5_gainBy 1 = .ok (.iload_n 1, 1) := by decide +kernel
theorem dX5_gainBy_2 : decode cX5_gainBy 2 = .ok (.invokevirtual 157, 3) := by decide +kernel
theorem dX5_gainBy_5 : decode cX5_gainBy 5 = .ok (.aload_n 0, 1) := by decide +kernel
theorem dX5_gainBy_6 : decode cX5_gainBy 6 = .ok (.getfield 10, 3) := by decide +kernel
theorem dX5_gainBy_9 : decode cX5_gainBy 9 = .ok (.iload_n 1, 1) := by decide +kernel
theorem dX5_gainBy_10 : decode cX5_gainBy 10 = .ok (.invokevirtual 197, 3) := by decide +kernel
theorem dX5_gainBy_13 : decode cX5_gainBy 13 = .ok (.ifCond .eq 5, 3) := by decide +kernel
theorem dX5_gainBy_16 : decode cX5_gainBy 16 = .ok (.iconst 0, 1) := by decide +kernel
theorem dX5_gainBy_17 : decode cX5_gainBy 17 = .ok (.ireturn, 1) := by decide +kernel
theorem dX5_gainBy_18 : decode cX5_gainBy 18 = .ok (.aload_n 0, 1) := by decide +kernel
theorem dX5_gainBy_19 : decode cX5_gainBy 19 = .ok (.getfield 44, 3) := by decide +kernel
theorem dX5_gainBy_22 : decode cX5_gainBy 22 = .ok (.iload_n 1, 1) := by decide +kernel
theorem dX5_gainBy_23 : decode cX5_gainBy 23 = .ok (.invokevirtual 194, 3) := by decide +kernel
theorem dX5_gainBy_26 : decode cX5_gainBy 26 = .ok (.aload_n 0, 1) := by decide +kernel
theorem dX5_gainBy_27 : decode cX5_gainBy 27 = .ok (.getfield 44, 3) := by decide +kernel
theorem dX5_gainBy_30 : decode cX5_gainBy 30 = .ok (.iconst (-1), 1) := by decide +kernel
theorem dX5_gainBy_31 : decode cX5_gainBy 31 = .ok (.invokevirtual 194, 3) := by decide +kernel
theorem dX5_gainBy_34 : decode cX5_gainBy 34 = .ok (.isub, 1) := by decide +kernel
theorem dX5_gainBy_35 : decode cX5_gainBy 35 = .ok (.ireturn, 1) := by decide +kernel
theorem dX5_fairness_0 : decode cX5_fairness 0 = .ok (.dconst 0, 1) := by decide +kernel
theorem dX5_fairness_1 : decode cX5_fairness 1 = .ok (.dstore_n 1, 1) := by decide +kernel
theorem dX5_fairness_2 : decode cX5_fairness 2 = .ok (.dconst 0, 1) := by decide +kernel
theorem dX5_fairness_3 : decode cX5_fairness 3 = .ok (.dstore_n 3, 1) := by decide +kernel
theorem dX5_fairness_4 : decode cX5_fairness 4 = .ok (.iconst 0, 1) := by decide +kernel
theorem dX5_fairness_5 : decode cX5_fairness 5 = .ok (.istore 5, 2) := by decide +kernel
theorem dX5_fairness_7 : decode cX5_fairness 7 = .ok (.iload 5, 2) := by decide +kernel
theorem dX5_fairness_9 : decode cX5_fairness 9 = .ok (.iconst 4, 1) := by decide +kernel
theorem dX5_fairness_10 : decode cX5_fairness 10 = .ok (.if_icmp .ge 47, 3) := by decide +kernel
theorem dX5_fairness_13 : decode cX5_fairness 13 = .ok (.aload_n 0, 1) := by decide +kernel
theorem dX5_fairness_14 : decode cX5_fairness 14 = .ok (.getfield 10, 3) := by decide +kernel
theorem dX5_fairness_17 : decode cX5_fairness 17 = .ok (.getfield 151, 3) := by decide +kernel
theorem dX5_fairness_20 : decode cX5_fairness 20 = .ok (.iload 5, 2) := by decide +kernel
theorem dX5_fairness_22 : decode cX5_fairness 22 = .ok (.iaload, 1) := by decide +kernel
theorem dX5_fairness_23 : decode cX5_fairness 23 = .ok (.i2d, 1) := by decide +kernel
theorem dX5_fairness_24 : decode cX5_fairness 24 = .ok (.aload_n 0, 1) := by decide +kernel
theorem dX5_fairness_25 : decode cX5_fairness 25 = .ok (.getfield 10, 3) := by decide +kernel
theorem dX5_fairness_28 : decode cX5_fairness 28 = .ok (.getfield 100, 3) := by decide +kernel
theorem dX5_fairness_31 : decode cX5_fairness 31 = .ok (.iload 5, 2) := by decide +kernel
theorem dX5_fairness_33 : decode cX5_fairness 33 = .ok (.iaload, 1) := by decide +kernel
theorem dX5_fairness_34 : decode cX5_fairness 34 = .ok (.i2d, 1) := by decide +kernel
theorem dX5_fairness_35 : decode cX5_fairness 35 = .ok (.ddiv, 1) := by decide +kernel
theorem dX5_fairness_36 : decode cX5_fairness 36 = .ok (.dstore 6, 2) := by decide +kernel
theorem dX5_fairness_38 : decode cX5_fairness 38 = .ok (.dload_n 1, 1) := by decide +kernel
theorem dX5_fairness_39 : decode cX5_fairness 39 = .ok (.dload 6, 2) := by decide +kernel
theorem dX5_fairness_41 : decode cX5_fairness 41 = .ok (.dadd, 1) := by decide +kernel
theorem dX5_fairness_42 : decode cX5_fairness 42 = .ok (.dstore_n 1, 1) := by decide +kernel
theorem dX5_fairness_43 : decode cX5_fairness 43 = .ok (.dload_n 3, 1) := by decide +kernel
theorem dX5_fairness_44 : decode cX5_fairness 44 = .ok (.dload 6, 2) := by decide +kernel
theorem dX5_fairness_46 : decode cX5_fairness 46 = .ok (.dload 6, 2) := by decide +kernel
theorem dX5_fairness_48 : decode cX5_fairness 48 = .ok (.dmul, 1) := by decide +kernel
theorem dX5_fairness_49 : decode cX5_fairness 49 = .ok (.dadd, 1) := by decide +kernel
theorem dX5_fairness_50 : decode cX5_fairness 50 = .ok (.dstore_n 3, 1) := by decide +kernel
theorem dX5_fairness_51 : decode cX5_fairness 51 = .ok (.iinc 5 1, 3) := by decide +kernel
theorem dX5_fairness_54 : decode cX5_fairness 54 = .ok (.goto (-47), 3) := by decide +kernel
theorem dX5_fairness_57 : decode cX5_fairness 57 = .ok (.dload_n 3, 1) := by decide +kernel
theorem dX5_fairness_58 : decode cX5_fairness 58 = .ok (.dconst 0, 1) := by decide +kernel
theorem dX5_fairness_59 : decode cX5_fairness 59 = .ok (.dcmp .l, 1) := by decide +kernel
theorem dX5_fairness_60 : decode cX5_fairness 60 = .ok (.ifCond .le 15, 3) := by decide +kernel
theorem dX5_fairness_63 : decode cX5_fairness 63 = .ok (.dload_n 1, 1) := by decide +kernel
theorem dX5_fairness_64 : decode cX5_fairness 64 = .ok (.dload_n 1, 1) := by decide +kernel
theorem dX5_fairness_65 : decode cX5_fairness 65 = .ok (.dmul, 1) := by decide +kernel
theorem dX5_fairness_66 : decode cX5_fairness 66 = .ok (.ldc2_w 200, 3) := by decide +kernel
theorem dX5_fairness_69 : decode cX5_fairness 69 = .ok (.dload_n 3, 1) := by decide +kernel
theorem dX5_fairness_70 : decode cX5_fairness 70 = .ok (.dmul, 1) := by decide +kernel
theorem dX5_fairness_71 : decode cX5_fairness 71 = .ok (.ddiv, 1) := by decide +kernel
theorem dX5_fairness_72 : decode cX5_fairness 72 = .ok (.goto 4, 3) := by decide +kernel
theorem dX5_fairness_75 : decode cX5_fairness 75 = .ok (.dconst 1, 1) := by decide +kernel
theorem dX5_fairness_76 : decode cX5_fairness 76 = .ok (.dreturn, 1) := by decide +kernel
theorem dX5_digest_0 : decode cX5_digest 0 = .ok (.ldc2_w 202, 3) := by decide +kernel
theorem dX5_digest_3 : decode cX5_digest 3 = .ok (.aload_n 0, 1) := by decide +kernel
theorem dX5_digest_4 : decode cX5_digest 4 = .ok (.getfield 10, 3) := by decide +kernel
theorem dX5_digest_7 : decode cX5_digest 7 = .ok (.getfield 59, 3) := by decide +kernel
theorem dX5_digest_10 : decode cX5_digest 10 = .ok (.invokestatic 204, 3) := by decide +kernel
theorem dX5_digest_13 : decode cX5_digest 13 = .ok (.lstore_n 1, 1) := by decide +kernel
theorem dX5_digest_14 : decode cX5_digest 14 = .ok (.lload_n 1, 1) := by decide +kernel
theorem dX5_digest_15 : decode cX5_digest 15 = .ok (.aload_n 0, 1) := by decide +kernel
theorem dX5_digest_16 : decode cX5_digest 16 = .ok (.getfield 10, 3) := by decide +kernel
theorem dX5_digest_19 : decode cX5_digest 19 = .ok (.getfield 119, 3) := by decide +kernel
theorem dX5_digest_22 : decode cX5_digest 22 = .ok (.invokestatic 204, 3) := by decide +kernel
theorem dX5_digest_25 : decode cX5_digest 25 = .ok (.lstore_n 1, 1) := by decide +kernel
theorem dX5_digest_26 : decode cX5_digest 26 = .ok (.iconst 0, 1) := by decide +kernel
theorem dX5_digest_27 : decode cX5_digest 27 = .ok (.istore_n 3, 1) := by decide +kernel
theorem dX5_digest_28 : decode cX5_digest 28 = .ok (.iload_n 3, 1) := by decide +kernel
theorem dX5_digest_29 : decode cX5_digest 29 = .ok (.aload_n 0, 1) := by decide +kernel
theorem dX5_digest_30 : decode cX5_digest 30 = .ok (.getfield 10, 3) := by decide +kernel
theorem dX5_digest_33 : decode cX5_digest 33 = .ok (.getfield 59, 3) := by decide +kernel
theorem dX5_digest_36 : decode cX5_digest 36 = .ok (.if_icmp .ge 37, 3) := by decide +kernel
theorem dX5_digest_39 : decode cX5_digest 39 = .ok (.lload_n 1, 1) := by decide +kernel
theorem dX5_digest_40 : decode cX5_digest 40 = .ok (.aload_n 0, 1) := by decide +kernel
theorem dX5_digest_41 : decode cX5_digest 41 = .ok (.getfield 10, 3) := by decide +kernel
theorem dX5_digest_44 : decode cX5_digest 44 = .ok (.getfield 83, 3) := by decide +kernel
theorem dX5_digest_47 : decode cX5_digest 47 = .ok (.iload_n 3, 1) := by decide +kernel
theorem dX5_digest_48 : decode cX5_digest 48 = .ok (.iaload, 1) := by decide +kernel
theorem dX5_digest_49 : decode cX5_digest 49 = .ok (.invokestatic 204, 3) := by decide +kernel
theorem dX5_digest_52 : decode cX5_digest 52 = .ok (.lstore_n 1, 1) := by decide +kernel
theorem dX5_digest_53 : decode cX5_digest 53 = .ok (.lload_n 1, 1) := by decide +kernel
theorem dX5_digest_54 : decode cX5_digest 54 = .ok (.aload_n 0, 1) := by decide +kernel
theorem dX5_digest_55 : decode cX5_digest 55 = .ok (.getfield 10, 3) := by decide +kernel
theorem dX5_digest_58 : decode cX5_digest 58 = .ok (.getfield 154, 3) := by decide +kernel
theorem dX5_digest_61 : decode cX5_digest 61 = .ok (.iload_n 3, 1) := by decide +kernel
theorem dX5_digest_62 : decode cX5_digest 62 = .ok (.iaload, 1) := by decide +kernel
theorem dX5_digest_63 : decode cX5_digest 63 = .ok (.invokestatic 204, 3) := by decide +kernel
theorem dX5_digest_66 : decode cX5_digest 66 = .ok (.lstore_n 1, 1) := by decide +kernel
theorem dX5_digest_67 : decode cX5_digest 67 = .ok (.iinc 3 1, 3) := by decide +kernel
theorem dX5_digest_70 : decode cX5_digest 70 = .ok (.goto (-42), 3) := by decide +kernel
theorem dX5_digest_73 : decode cX5_digest 73 = .ok (.iconst 0, 1) := by decide +kernel
theorem dX5_digest_74 : decode cX5_digest 74 = .ok (.istore_n 3, 1) := by decide +kernel
theorem dX5_digest_75 : decode cX5_digest 75 = .ok (.iload_n 3, 1) := by decide +kernel
theorem dX5_digest_76 : decode cX5_digest 76 = .ok (.aload_n 0, 1) := by decide +kernel
theorem dX5_digest_77 : decode cX5_digest 77 = .ok (.getfield 10, 3) := by decide +kernel
theorem dX5_digest_80 : decode cX5_digest 80 = .ok (.getfield 119, 3) := by decide +kernel
theorem dX5_digest_83 : decode cX5_digest 83 = .ok (.if_icmp .ge 61, 3) := by decide +kernel
theorem dX5_digest_86 : decode cX5_digest 86 = .ok (.lload_n 1, 1) := by decide +kernel
theorem dX5_digest_87 : decode cX5_digest 87 = .ok (.aload_n 0, 1) := by decide +kernel
theorem dX5_digest_88 : decode cX5_digest 88 = .ok (.getfield 10, 3) := by decide +kernel
theorem dX5_digest_91 : decode cX5_digest 91 = .ok (.iload_n 3, 1) := by decide +kernel
theorem dX5_digest_92 : decode cX5_digest 92 = .ok (.invokevirtual 160, 3) := by decide +kernel
theorem dX5_digest_95 : decode cX5_digest 95 = .ok (.invokestatic 204, 3) := by decide +kernel
theorem dX5_digest_98 : decode cX5_digest 98 = .ok (.lstore_n 1, 1) := by decide +kernel
theorem dX5_digest_99 : decode cX5_digest 99 = .ok (.lload_n 1, 1) := by decide +kernel
theorem dX5_digest_100 : decode cX5_digest 100 = .ok (.aload_n 0, 1) := by decide +kernel
theorem dX5_digest_101 : decode cX5_digest 101 = .ok (.getfield 10, 3) := by decide +kernel
theorem dX5_digest_104 : decode cX5_digest 104 = .ok (.getfield 171, 3) := by decide +kernel
theorem dX5_digest_107 : decode cX5_digest 107 = .ok (.iload_n 3, 1) := by decide +kernel
theorem dX5_digest_108 : decode cX5_digest 108 = .ok (.iaload, 1) := by decide +kernel
theorem dX5_digest_109 : decode cX5_digest 109 = .ok (.invokestatic 204, 3) := by decide +kernel
theorem dX5_digest_112 : decode cX5_digest 112 = .ok (.lstore_n 1, 1) := by decide +kernel
theorem dX5_digest_113 : decode cX5_digest 113 = .ok (.aload_n 0, 1) := by decide +kernel
theorem dX5_digest_114 : decode cX5_digest 114 = .ok (.getfield 10, 3) := by decide +kernel
theorem dX5_digest_117 : decode cX5_digest 117 = .ok (.iload_n 3, 1) := by decide +kernel
theorem dX5_digest_118 : decode cX5_digest 118 = .ok (.invokevirtual 142, 3) := by decide +kernel
theorem dX5_digest_121 : decode cX5_digest 121 = .ok (.ifCond .eq 17, 3) := by decide +kernel
theorem dX5_digest_124 : decode cX5_digest 124 = .ok (.lload_n 1, 1) := by decide +kernel
theorem dX5_digest_125 : decode cX5_digest 125 = .ok (.aload_n 0, 1) := by decide +kernel
theorem dX5_digest_126 : decode cX5_digest 126 = .ok (.getfield 10, 3) := by decide +kernel
theorem dX5_digest_129 : decode cX5_digest 129 = .ok (.getfield 168, 3) := by decide +kernel
theorem dX5_digest_132 : decode cX5_digest 132 = .ok (.iload_n 3, 1) := by decide +kernel
theorem dX5_digest_133 : decode cX5_digest 133 = .ok (.iaload, 1) := by decide +kernel
theorem dX5_digest_134 : decode cX5_digest 134 = .ok (.invokestatic 204, 3) := by decide +kernel
theorem dX5_digest_137 : decode cX5_digest 137 = .ok (.lstore_n 1, 1) := by decide +kernel
theorem dX5_digest_138 : decode cX5_digest 138 = .ok (.iinc 3 1, 3) := by decide +kernel
theorem dX5_digest_141 : decode cX5_digest 141 = .ok (.goto (-66), 3) := by decide +kernel
theorem dX5_digest_144 : decode cX5_digest 144 = .ok (.lload_n 1, 1) := by decide +kernel
theorem dX5_digest_145 : decode cX5_digest 145 = .ok (.aload_n 0, 1) := by decide +kernel
theorem dX5_digest_146 : decode cX5_digest 146 = .ok (.getfield 19, 3) := by decide +kernel
theorem dX5_digest_149 : decode cX5_digest 149 = .ok (.getfield 174, 3) := by decide +kernel
theorem dX5_digest_152 : decode cX5_digest 152 = .ok (.invokestatic 204, 3) := by decide +kernel
theorem dX5_digest_155 : decode cX5_digest 155 = .ok (.lreturn, 1) := by decide +kernel
theorem dX5_requireResource_0 : decode cX5_requireResource 0 = .ok (.iload_n 1, 1) := by decide +kernel
theorem dX5_requireResource_1 : decode cX5_requireResource 1 = .ok (.iconst 0, 1) := by decide +kernel
theorem dX5_requireResource_2 : decode cX5_requireResource 2 = .ok (.aload_n 0, 1) := by decide +kernel
theorem dX5_requireResource_3 : decode cX5_requireResource 3 = .ok (.getfield 10, 3) := by decide +kernel
theorem dX5_requireResource_6 : decode cX5_requireResource 6 = .ok (.getfield 59, 3) := by decide +kernel
theorem dX5_requireResource_9 : decode cX5_requireResource 9 = .ok (.iconst 1, 1) := by decide +kernel
theorem dX5_requireResource_10 : decode cX5_requireResource 10 = .ok (.isub, 1) := by decide +kernel
theorem dX5_requireResource_11 : decode cX5_requireResource 11 = .ok (.invokestatic 48, 3) := by decide +kernel
theorem dX5_requireResource_14 : decode cX5_requireResource 14 = .ok (.ifCond .ne 13, 3) := by decide +kernel
theorem dX5_requireResource_17 : decode cX5_requireResource 17 = .ok (.new 208, 3) := by decide +kernel
theorem dX5_requireResource_20 : decode cX5_requireResource 20 = .ok (.dup, 1) := by decide +kernel
theorem dX5_requireResource_21 : decode cX5_requireResource 21 = .ok (.ldc 210, 2) := by decide +kernel
theorem dX5_requireResource_23 : decode cX5_requireResource 23 = .ok (.invokespecial 212, 3) := by decide +kernel
theorem dX5_requireResource_26 : decode cX5_requireResource 26 = .ok (.athrow, 1) := by decide +kernel
theorem dX5_requireResource_27 : decode cX5_requireResource 27 = .ok (.return_, 1) := by decide +kernel
theorem dX5_requireGroup_0 : decode cX5_requireGroup 0 = .ok (.iload_n 1, 1) := by decide +kernel
theorem dX5_requireGroup_1 : decode cX5_requireGroup 1 = .ok (.iconst 0, 1) := by decide +kernel
theorem dX5_requireGroup_2 : decode cX5_requireGroup 2 = .ok (.iconst 3, 1) := by decide +kernel
theorem dX5_requireGroup_3 : decode cX5_requireGroup 3 = .ok (.invokestatic 48, 3) := by decide +kernel
theorem dX5_requireGroup_6 : decode cX5_requireGroup 6 = .ok (.ifCond .ne 13, 3) := by decide +kernel
theorem dX5_requireGroup_9 : decode cX5_requireGroup 9 = .ok (.new 208, 3) := by decide +kernel
theorem dX5_requireGroup_12 : decode cX5_requireGroup 12 = .ok (.dup, 1) := by decide +kernel
theorem dX5_requireGroup_13 : decode cX5_requireGroup 13 = .ok (.ldc 213, 2) := by decide +kernel
theorem dX5_requireGroup_15 : decode cX5_requireGroup 15 = .ok (.invokespecial 212, 3) := by decide +kernel
theorem dX5_requireGroup_18 : decode cX5_requireGroup 18 = .ok (.athrow, 1) := by decide +kernel
theorem dX5_requireGroup_19 : decode cX5_requireGroup 19 = .ok (.return_, 1) := by decide +kernel
theorem dX5_requireRequest_0 : decode cX5_requireRequest 0 = .ok (.iload_n 1, 1) := by decide +kernel
theorem dX5_requireRequest_1 : decode cX5_requireRequest 1 = .ok (.iconst 0, 1) := by decide +kernel
theorem dX5_requireRequest_2 : decode cX5_requireRequest 2 = .ok (.aload_n 0, 1) := by decide +kernel
theorem dX5_requireRequest_3 : decode cX5_requireRequest 3 = .ok (.getfield 10, 3) := by decide +kernel
theorem dX5_requireRequest_6 : decode cX5_requireRequest 6 = .ok (.getfield 119, 3) := by decide +kernel
theorem dX5_requireRequest_9 : decode cX5_requireRequest 9 = .ok (.iconst 1, 1) := by decide +kernel
theorem dX5_requireRequest_10 : decode cX5_requireRequest 10 = .ok (.isub, 1) := by decide +kernel
theorem dX5_requireRequest_11 : decode cX5_requireRequest 11 = .ok (.invokestatic 48, 3) := by decide +kernel
theorem dX5_requireRequest_14 : decode cX5_requireRequest 14 = .ok (.ifCond .ne 13, 3) := by decide +kernel
theorem dX5_requireRequest_17 : decode cX5_requireRequest 17 = .ok (.new 208, 3) := by decide +kernel
theorem dX5_requireRequest_20 : decode cX5_requireRequest 20 = .ok (.dup, 1) := by decide +kernel
theorem dX5_requireRequest_21 : decode cX5_requireRequest 21 = .ok (.ldc 215, 2) := by decide +kernel
theorem dX5_requireRequest_23 : decode cX5_requireRequest 23 = .ok (.invokespecial 212, 3) := by decide +kernel
theorem dX5_requireRequest_26 : decode cX5_requireRequest 26 = .ok (.athrow, 1) := by decide +kernel
theorem dX5_requireRequest_27 : decode cX5_requireRequest 27 = .ok (.return_, 1) := by decide +kernel
theorem dX5_requirePresent_0 : decode cX5_requirePresent 0 = .ok (.aload_n 0, 1) := by decide +kernel
theorem dX5_requirePresent_1 : decode cX5_requirePresent 1 = .ok (.iload_n 1, 1) := by decide +kernel
theorem dX5_requirePresent_2 : decode cX5_requirePresent 2 = .ok (.invokevirtual 157, 3) := by decide +kernel
theorem dX5_requirePresent_5 : decode cX5_requirePresent 5 = .ok (.aload_n 0, 1) := by decide +kernel
theorem dX5_requirePresent_6 : decode cX5_requirePresent 6 = .ok (.getfield 10, 3) := by decide +kernel
theorem dX5_requirePresent_9 : decode cX5_requirePresent 9 = .ok (.iload_n 1, 1) := by decide +kernel
theorem dX5_requirePresent_10 : decode cX5_requirePresent 10 = .ok (.invokevirtual 197, 3) := by decide +kernel
theorem dX5_requirePresent_13 : decode cX5_requirePresent 13 = .ok (.ifCond .eq 13, 3) := by decide +kernel
theorem dX5_requirePresent_16 : decode cX5_requirePresent 16 = .ok (.new 163, 3) := by decide +kernel
theorem dX5_requirePresent_19 : decode cX5_requirePresent 19 = .ok (.dup, 1) := by decide +kernel
theorem dX5_requirePresent_20 : decode cX5_requirePresent 20 = .ok (.ldc 217, 2) := by decide +kernel
theorem dX5_requirePresent_22 : decode cX5_requirePresent 22 = .ok (.invokespecial 167, 3) := by decide +kernel
theorem dX5_requirePresent_25 : decode cX5_requirePresent 25 = .ok (.athrow, 1) := by decide +kernel
theorem dX5_requirePresent_26 : decode cX5_requirePresent 26 = .ok (.return_, 1) := by decide +kernel
theorem dX5_requireMask_0 : decode cX5_requireMask 0 = .ok (.iload_n 1, 1) := by decide +kernel
theorem dX5_requireMask_1 : decode cX5_requireMask 1 = .ok (.ifCond .lt 17, 3) := by decide +kernel
theorem dX5_requireMask_4 : decode cX5_requireMask 4 = .ok (.iload_n 1, 1) := by decide +kernel
theorem dX5_requireMask_5 : decode cX5_requireMask 5 = .ok (.aload_n 0, 1) := by decide +kernel
theorem dX5_requireMask_6 : decode cX5_requireMask 6 = .ok (.getfield 10, 3) := by decide +kernel
theorem dX5_requireMask_9 : decode cX5_requireMask 9 = .ok (.invokevirtual 219, 3) := by decide +kernel
theorem dX5_requireMask_12 : decode cX5_requireMask 12 = .ok (.iconst (-1), 1) := by decide +kernel
theorem dX5_requireMask_13 : decode cX5_requireMask 13 = .ok (.ixor, 1) := by decide +kernel
theorem dX5_requireMask_14 : decode cX5_requireMask 14 = .ok (.iand, 1) := by decide +kernel
theorem dX5_requireMask_15 : decode cX5_requireMask 15 = .ok (.ifCond .eq 13, 3) := by decide +kernel
theorem dX5_requireMask_18 : decode cX5_requireMask 18 = .ok (.new 52, 3) := by decide +kernel
theorem dX5_requireMask_21 : decode cX5_requireMask 21 = .ok (.dup, 1) := by decide +kernel
theorem dX5_requireMask_22 : decode cX5_requireMask 22 = .ok (.ldc 222, 2) := by decide +kernel
theorem dX5_requireMask_24 : decode cX5_requireMask 24 = .ok (.invokespecial 56, 3) := by decide +kernel
theorem dX5_requireMask_27 : decode cX5_requireMask 27 = .ok (.athrow, 1) := by decide +kernel
theorem dX5_requireMask_28 : decode cX5_requireMask 28 = .ok (.return_, 1) := by decide +kernel
theorem dX5_requireLogged_0 : decode cX5_requireLogged 0 = .ok (.iload_n 1, 1) := by decide +kernel
theorem dX5_requireLogged_1 : decode cX5_requireLogged 1 = .ok (.iconst 0, 1) := by decide +kernel
theorem dX5_requireLogged_2 : decode cX5_requireLogged 2 = .ok (.aload_n 0, 1) := by decide +kernel
theorem dX5_requireLogged_3 : decode cX5_requireLogged 3 = .ok (.getfield 19, 3) := by decide +kernel
theorem dX5_requireLogged_6 : decode cX5_requireLogged 6 = .ok (.getfield 174, 3) := by decide +kernel
theorem dX5_requireLogged_9 : decode cX5_requireLogged 9 = .ok (.iconst 1, 1) := by decide +kernel
theorem dX5_requireLogged_10 : decode cX5_requireLogged 10 = .ok (.isub, 1) := by decide +kernel
theorem dX5_requireLogged_11 : decode cX5_requireLogged 11 = .ok (.invokestatic 48, 3) := by decide +kernel
theorem dX5_requireLogged_14 : decode cX5_requireLogged 14 = .ok (.ifCond .ne 13, 3) := by decide +kernel
theorem dX5_requireLogged_17 : decode cX5_requireLogged 17 = .ok (.new 208, 3) := by decide +kernel
theorem dX5_requireLogged_20 : decode cX5_requireLogged 20 = .ok (.dup, 1) := by decide +kernel
theorem dX5_requireLogged_21 : decode cX5_requireLogged 21 = .ok (.ldc 224, 2) := by decide +kernel
theorem dX5_requireLogged_23 : decode cX5_requireLogged 23 = .ok (.invokespecial 212, 3) := by decide +kernel
theorem dX5_requireLogged_26 : decode cX5_requireLogged 26 = .ok (.athrow, 1) := by decide +kernel
theorem dX5_requireLogged_27 : decode cX5_requireLogged 27 = .ok (.return_, 1) := by decide +kernel
theorem dX5_isWithin_0 : decode cX5_isWithin 0 = .ok (.iload_n 0, 1) := by decide +kernel
theorem dX5_isWithin_1 : decode cX5_isWithin 1 = .ok (.iload_n 1, 1) := by decide +kernel
theorem dX5_isWithin_2 : decode cX5_isWithin 2 = .ok (.if_icmp .lt 12, 3) := by decide +kernel
theorem dX5_isWithin_5 : decode cX5_isWithin 5 = .ok (.iload_n 0, 1) := by decide +kernel
theorem dX5_isWithin_6 : decode cX5_isWithin 6 = .ok (.iload_n 2, 1) := by decide +kernel
theorem dX5_isWithin_7 : decode cX5_isWithin 7 = .ok (.if_icmp .gt 7, 3) := by decide +kernel
theorem dX5_isWithin_10 : decode cX5_isWithin 10 = .ok (.iconst 1, 1) := by decide +kernel
theorem dX5_isWithin_11 : decode cX5_isWithin 11 = .ok (.goto 4, 3) := by decide +kernel
theorem dX5_isWithin_14 : decode cX5_isWithin 14 = .ok (.iconst 0, 1) := by decide +kernel
theorem dX5_isWithin_15 : decode cX5_isWithin 15 = .ok (.ireturn, 1) := by decide +kernel
theorem dX5_hasBit_0 : decode cX5_hasBit 0 = .ok (.iload_n 0, 1) := by decide +kernel
theorem dX5_hasBit_1 : decode cX5_hasBit 1 = .ok (.iload_n 1, 1) := by decide +kernel
theorem dX5_hasBit_2 : decode cX5_hasBit 2 = .ok (.ishr, 1) := by decide +kernel
theorem dX5_hasBit_3 : decode cX5_hasBit 3 = .ok (.iconst 1, 1) := by decide +kernel
theorem dX5_hasBit_4 : decode cX5_hasBit 4 = .ok (.iand, 1) := by decide +kernel
theorem dX5_hasBit_5 : decode cX5_hasBit 5 = .ok (.ifCond .eq 7, 3) := by decide +kernel
theorem dX5_hasBit_8 : decode cX5_hasBit 8 = .ok (.iconst 1, 1) := by decide +kernel
theorem dX5_hasBit_9 : decode cX5_hasBit 9 = .ok (.goto 4, 3) := by decide +kernel
theorem dX5_hasBit_12 : decode cX5_hasBit 12 = .ok (.iconst 0, 1) := by decide +kernel
theorem dX5_hasBit_13 : decode cX5_hasBit 13 = .ok (.ireturn, 1) := by decide +kernel
theorem dX5_lowestResource_0 : decode cX5_lowestResource 0 = .ok (.iconst 0, 1) := by decide +kernel
theorem dX5_lowestResource_1 : decode cX5_lowestResource 1 = .ok (.istore_n 1, 1) := by decide +kernel
theorem dX5_lowestResource_2 : decode cX5_lowestResource 2 = .ok (.iload_n 1, 1) := by decide +kernel
theorem dX5_lowestResource_3 : decode cX5_lowestResource 3 = .ok (.bipush 12, 2) := by decide +kernel
theorem dX5_lowestResource_5 : decode cX5_lowestResource 5 = .ok (.if_icmp .ge 19, 3) := by decide +kernel
theorem dX5_lowestResource_8 : decode cX5_lowestResource 8 = .ok (.iload_n 0, 1) := by decide +kernel
theorem dX5_lowestResource_9 : decode cX5_lowestResource 9 = .ok (.iload_n 1, 1) := by decide +kernel
theorem dX5_lowestResource_10 : decode cX5_lowestResource 10 = .ok (.invokestatic 226, 3) := by decide +kernel
theorem dX5_lowestResource_13 : decode cX5_lowestResource 13 = .ok (.ifCond .eq 5, 3) := by decide +kernel
theorem dX5_lowestResource_16 : decode cX5_lowestResource 16 = .ok (.iload_n 1, 1) := by decide +kernel
theorem dX5_lowestResource_17 : decode cX5_lowestResource 17 = .ok (.ireturn, 1) := by decide +kernel
theorem dX5_lowestResource_18 : decode cX5_lowestResource 18 = .ok (.iinc 1 1, 3) := by decide +kernel
theorem dX5_lowestResource_21 : decode cX5_lowestResource 21 = .ok (.goto (-19), 3) := by decide +kernel
theorem dX5_lowestResource_24 : decode cX5_lowestResource 24 = .ok (.iconst (-1), 1) := by decide +kernel
theorem dX5_lowestResource_25 : decode cX5_lowestResource 25 = .ok (.ireturn, 1) := by decide +kernel
theorem dX5_mix_0 : decode cX5_mix 0 = .ok (.lload_n 0, 1) := by decide +kernel
theorem dX5_mix_1 : decode cX5_mix 1 = .ok (.ldc2_w 230, 3) := by decide +kernel
theorem dX5_mix_4 : decode cX5_mix 4 = .ok (.lmul, 1) := by decide +kernel
theorem dX5_mix_5 : decode cX5_mix 5 = .ok (.iload_n 2, 1) := by decide +kernel
theorem dX5_mix_6 : decode cX5_mix 6 = .ok (.i2l, 1) := by decide +kernel
theorem dX5_mix_7 : decode cX5_mix 7 = .ok (.ladd, 1) := by decide +kernel
theorem dX5_mix_8 : decode cX5_mix 8 = .ok (.lreturn, 1) := by decide +kernel
