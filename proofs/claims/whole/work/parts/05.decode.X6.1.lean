theorem dX6_run_24 : decode cX6_run 24 = .ok (.invokevirtual 105, 3) := by decide +kernel
theorem dX6_run_27 : decode cX6_run 27 = .ok (.istore_n 2, 1) := by decide +kernel
theorem dX6_run_28 : decode cX6_run 28 = .ok (.iload_n 2, 1) := by decide +kernel
theorem dX6_run_29 : decode cX6_run 29 = .ok (.iconst (-1), 1) := by decide +kernel
theorem dX6_run_30 : decode cX6_run 30 = .ok (.if_icmp .eq 34, 3) := by decide +kernel
theorem dX6_run_33 : decode cX6_run 33 = .ok (.aload_n 0, 1) := by decide +kernel
theorem dX6_run_34 : decode cX6_run 34 = .ok (.getfield 50, 3) := by decide +kernel
theorem dX6_run_37 : decode cX6_run 37 = .ok (.iload_n 2, 1) := by decide +kernel
theorem dX6_run_38 : decode cX6_run 38 = .ok (.iconst 1, 1) := by decide +kernel
theorem dX6_run_39 : decode cX6_run 39 = .ok (.bastore, 1) := by decide +kernel
theorem dX6_run_40 : decode cX6_run 40 = .ok (.iload_n 1, 1) := by decide +kernel
theorem dX6_run_41 : decode cX6_run 41 = .ok (.aload_n 0, 1) := by decide +kernel
theorem dX6_run_42 : decode cX6_run 42 = .ok (.iload_n 2, 1) := by decide +kernel
theorem dX6_run_43 : decode cX6_run 43 = .ok (.invokevirtual 109, 3) := by decide +kernel
theorem dX6_run_46 : decode cX6_run 46 = .ok (.ifCond .eq 7, 3) := by decide +kernel
theorem dX6_run_49 : decode cX6_run 49 = .ok (.iconst 1, 1) := by decide +kernel
theorem dX6_run_50 : decode cX6_run 50 = .ok (.goto 4, 3) := by decide +kernel
theorem dX6_run_53 : decode cX6_run 53 = .ok (.iconst 0, 1) := by decide +kernel
theorem dX6_run_54 : decode cX6_run 54 = .ok (.iadd, 1) := by decide +kernel
theorem dX6_run_55 : decode cX6_run 55 = .ok (.istore_n 1, 1) := by decide +kernel
theorem dX6_run_56 : decode cX6_run 56 = .ok (.aload_n 0, 1) := by decide +kernel
theorem dX6_run_57 : decode cX6_run 57 = .ok (.invokevirtual 105, 3) := by decide +kernel
theorem dX6_run_60 : decode cX6_run 60 = .ok (.istore_n 2, 1) := by decide +kernel
theorem dX6_run_61 : decode cX6_run 61 = .ok (.goto (-33), 3) := by decide +kernel
theorem dX6_run_64 : decode cX6_run 64 = .ok (.iload_n 1, 1) := by decide +kernel
theorem dX6_run_65 : decode cX6_run 65 = .ok (.ireturn, 1) := by decide +kernel
theorem dX6_next_0 : decode cX6_next 0 = .ok (.iconst (-1), 1) := by decide +kernel
theorem dX6_next_1 : decode cX6_next 1 = .ok (.istore_n 1, 1) := by decide +kernel
theorem dX6_next_2 : decode cX6_next 2 = .ok (.iconst 0, 1) := by decide +kernel
theorem dX6_next_3 : decode cX6_next 3 = .ok (.istore_n 2, 1) := by decide +kernel
theorem dX6_next_4 : decode cX6_next 4 = .ok (.iload_n 2, 1) := by decide +kernel
theorem dX6_next_5 : decode cX6_next 5 = .ok (.iconst 4, 1) := by decide +kernel
theorem dX6_next_6 : decode cX6_next 6 = .ok (.if_icmp .ge 67, 3) := by decide +kernel
theorem dX6_next_9 : decode cX6_next 9 = .ok (.aload_n 0, 1) := by decide +kernel
theorem dX6_next_10 : decode cX6_next 10 = .ok (.iload_n 2, 1) := by decide +kernel
theorem dX6_next_11 : decode cX6_next 11 = .ok (.invokevirtual 113, 3) := by decide +kernel
theorem dX6_next_14 : decode cX6_next 14 = .ok (.istore_n 3, 1) := by decide +kernel
theorem dX6_next_15 : decode cX6_next 15 = .ok (.iload_n 3, 1) := by decide +kernel
theorem dX6_next_16 : decode cX6_next 16 = .ok (.iconst (-1), 1) := by decide +kernel
theorem dX6_next_17 : decode cX6_next 17 = .ok (.if_icmp .eq 50, 3) := by decide +kernel
theorem dX6_next_20 : decode cX6_next 20 = .ok (.iload_n 1, 1) := by decide +kernel
theorem dX6_next_21 : decode cX6_next 21 = .ok (.iconst (-1), 1) := by decide +kernel
theorem dX6_next_22 : decode cX6_next 22 = .ok (.if_icmp .eq 43, 3) := by decide +kernel
theorem dX6_next_25 : decode cX6_next 25 = .ok (.aload_n 0, 1) := by decide +kernel
theorem dX6_next_26 : decode cX6_next 26 = .ok (.iload_n 2, 1) := by decide +kernel
theorem dX6_next_27 : decode cX6_next 27 = .ok (.invokevirtual 89, 3) := by decide +kernel
theorem dX6_next_30 : decode cX6_next 30 = .ok (.aload_n 0, 1) := by decide +kernel
theorem dX6_next_31 : decode cX6_next 31 = .ok (.getfield 16, 3) := by decide +kernel
theorem dX6_next_34 : decode cX6_next 34 = .ok (.aload_n 0, 1) := by decide +kernel
theorem dX6_next_35 : decode cX6_next 35 = .ok (.getfield 19, 3) := by decide +kernel
theorem dX6_next_38 : decode cX6_next 38 = .ok (.iload_n 1, 1) := by decide +kernel
theorem dX6_next_39 : decode cX6_next 39 = .ok (.iaload, 1) := by decide +kernel
theorem dX6_next_40 : decode cX6_next 40 = .ok (.iaload, 1) := by decide +kernel
theorem dX6_next_41 : decode cX6_next 41 = .ok (.imul, 1) := by decide +kernel
theorem dX6_next_42 : decode cX6_next 42 = .ok (.aload_n 0, 1) := by decide +kernel
theorem dX6_next_43 : decode cX6_next 43 = .ok (.aload_n 0, 1) := by decide +kernel
theorem dX6_next_44 : decode cX6_next 44 = .ok (.getfield 19, 3) := by decide +kernel
theorem dX6_next_47 : decode cX6_next 47 = .ok (.iload_n 1, 1) := by decide +kernel
theorem dX6_next_48 : decode cX6_next 48 = .ok (.iaload, 1) := by decide +kernel
theorem dX6_next_49 : decode cX6_next 49 = .ok (.invokevirtual 89, 3) := by decide +kernel
theorem dX6_next_52 : decode cX6_next 52 = .ok (.aload_n 0, 1) := by decide +kernel
theorem dX6_next_53 : decode cX6_next 53 = .ok (.getfield 16, 3) := by decide +kernel
theorem dX6_next_56 : decode cX6_next 56 = .ok (.iload_n 2, 1) := by decide +kernel
theorem dX6_next_57 : decode cX6_next 57 = .ok (.iaload, 1) := by decide +kernel
theorem dX6_next_58 : decode cX6_next 58 = .ok (.imul, 1) := by decide +kernel
theorem dX6_next_59 : decode cX6_next 59 = .ok (.if_icmp .lt 6, 3) := by decide +kernel
theorem dX6_next_62 : decode cX6_next 62 = .ok (.goto 5, 3) := by decide +kernel
theorem dX6_next_65 : decode cX6_next 65 = .ok (.iload_n 3, 1) := by decide +kernel
theorem dX6_next_66 : decode cX6_next 66 = .ok (.istore_n 1, 1) := by decide +kernel
theorem dX6_next_67 : decode cX6_next 67 = .ok (.iinc 2 1, 3) := by decide +kernel
theorem dX6_next_70 : decode cX6_next 70 = .ok (.goto (-66), 3) := by decide +kernel
theorem dX6_next_73 : decode cX6_next 73 = .ok (.iload_n 1, 1) := by decide +kernel
theorem dX6_next_74 : decode cX6_next 74 = .ok (.ireturn, 1) := by decide +kernel
theorem dX6_firstIn_0 : decode cX6_firstIn 0 = .ok (.iconst 0, 1) := by decide +kernel
theorem dX6_firstIn_1 : decode cX6_firstIn 1 = .ok (.istore_n 2, 1) := by decide +kernel
theorem dX6_firstIn_2 : decode cX6_firstIn 2 = .ok (.iload_n 2, 1) := by decide +kernel
theorem dX6_firstIn_3 : decode cX6_firstIn 3 = .ok (.aload_n 0, 1) := by decide +kernel
theorem dX6_firstIn_4 : decode cX6_firstIn 4 = .ok (.getfield 66, 3) := by decide +kernel
theorem dX6_firstIn_7 : decode cX6_firstIn 7 = .ok (.if_icmp .ge 39, 3) := by decide +kernel
theorem dX6_firstIn_10 : decode cX6_firstIn 10 = .ok (.aload_n 0, 1) := by decide +kernel
theorem dX6_firstIn_11 : decode cX6_firstIn 11 = .ok (.getfield 19, 3) := by decide +kernel
theorem dX6_firstIn_14 : decode cX6_firstIn 14 = .ok (.iload_n 2, 1) := by decide +kernel
theorem dX6_firstIn_15 : decode cX6_firstIn 15 = .ok (.iaload, 1) := by decide +kernel
theorem dX6_firstIn_16 : decode cX6_firstIn 16 = .ok (.iload_n 1, 1) := by decide +kernel
theorem dX6_firstIn_17 : decode cX6_firstIn 17 = .ok (.if_icmp .ne 23, 3) := by decide +kernel
theorem dX6_firstIn_20 : decode cX6_firstIn 20 = .ok (.aload_n 0, 1) := by decide +kernel
theorem dX6_firstIn_21 : decode cX6_firstIn 21 = .ok (.getfield 25, 3) := by decide +kernel
theorem dX6_firstIn_24 : decode cX6_firstIn 24 = .ok (.iload_n 2, 1) := by decide +kernel
theorem dX6_firstIn_25 : decode cX6_firstIn 25 = .ok (.iaload, 1) := by decide +kernel
theorem dX6_firstIn_26 : decode cX6_firstIn 26 = .ok (.ifCond .ne 14, 3) := by decide +kernel
theorem dX6_firstIn_29 : decode cX6_firstIn 29 = .ok (.aload_n 0, 1) := by decide +kernel
theorem dX6_firstIn_30 : decode cX6_firstIn 30 = .ok (.getfield 50, 3) := by decide +kernel
theorem dX6_firstIn_33 : decode cX6_firstIn 33 = .ok (.iload_n 2, 1) := by decide +kernel
theorem dX6_firstIn_34 : decode cX6_firstIn 34 = .ok (.baload, 1) := by decide +kernel
theorem dX6_firstIn_35 : decode cX6_firstIn 35 = .ok (.ifCond .ne 5, 3) := by decide +kernel
theorem dX6_firstIn_38 : decode cX6_firstIn 38 = .ok (.iload_n 2, 1) := by decide +kernel
theorem dX6_firstIn_39 : decode cX6_firstIn 39 = .ok (.ireturn, 1) := by decide +kernel
theorem dX6_firstIn_40 : decode cX6_firstIn 40 = .ok (.iinc 2 1, 3) := by decide +kernel
theorem dX6_firstIn_43 : decode cX6_firstIn 43 = .ok (.goto (-41), 3) := by decide +kernel
theorem dX6_firstIn_46 : decode cX6_firstIn 46 = .ok (.iconst (-1), 1) := by decide +kernel
theorem dX6_firstIn_47 : decode cX6_firstIn 47 = .ok (.ireturn, 1) := by decide +kernel
theorem dX6_addResource_0 : decode cX6_addResource 0 = .ok (.aload_n 0, 1) := by decide +kernel
theorem dX6_addResource_1 : decode cX6_addResource 1 = .ok (.iconst 0, 1) := by decide +kernel
theorem dX6_addResource_2 : decode cX6_addResource 2 = .ok (.putfield 60, 3) := by decide +kernel
theorem dX6_addResource_5 : decode cX6_addResource 5 = .ok (.iload_n 1, 1) := by decide +kernel
theorem dX6_addResource_6 : decode cX6_addResource 6 = .ok (.ifCond .lt 8, 3) := by decide +kernel
theorem dX6_addResource_9 : decode cX6_addResource 9 = .ok (.iload_n 1, 1) := by decide +kernel
theorem dX6_addResource_10 : decode cX6_addResource 10 = .ok (.iconst 4, 1) := by decide +kernel
theorem dX6_addResource_11 : decode cX6_addResource 11 = .ok (.if_icmp .le 9, 3) := by decide +kernel
theorem dX6_addResource_14 : decode cX6_addResource 14 = .ok (.aload_n 0, 1) := by decide +kernel
theorem dX6_addResource_15 : decode cX6_addResource 15 = .ok (.iconst 1, 1) := by decide +kernel
theorem dX6_addResource_16 : decode cX6_addResource 16 = .ok (.invokevirtual 116, 3) := by decide +kernel
theorem dX6_addResource_19 : decode cX6_addResource 19 = .ok (.ireturn, 1) := by decide +kernel
theorem dX6_addResource_20 : decode cX6_addResource 20 = .ok (.aload_n 0, 1) := by decide +kernel
theorem dX6_addResource_21 : decode cX6_addResource 21 = .ok (.getfield 63, 3) := by decide +kernel
theorem dX6_addResource_24 : decode cX6_addResource 24 = .ok (.bipush 12, 2) := by decide +kernel
theorem dX6_addResource_26 : decode cX6_addResource 26 = .ok (.if_icmp .ne 9, 3) := by decide +kernel
theorem dX6_addResource_29 : decode cX6_addResource 29 = .ok (.aload_n 0, 1) := by decide +kernel
theorem dX6_addResource_30 : decode cX6_addResource 30 = .ok (.iconst 2, 1) := by decide +kernel
theorem dX6_addResource_31 : decode cX6_addResource 31 = .ok (.invokevirtual 116, 3) := by decide +kernel
theorem dX6_addResource_34 : decode cX6_addResource 34 = .ok (.ireturn, 1) := by decide +kernel
theorem dX6_addResource_35 : decode cX6_addResource 35 = .ok (.aload_n 0, 1) := by decide +kernel
theorem dX6_addResource_36 : decode cX6_addResource 36 = .ok (.iconst 0, 1) := by decide +kernel
theorem dX6_addResource_37 : decode cX6_addResource 37 = .ok (.putfield 102, 3) := by decide +kernel
theorem dX6_addResource_40 : decode cX6_addResource 40 = .ok (.aload_n 0, 1) := by decide +kernel
theorem dX6_addResource_41 : decode cX6_addResource 41 = .ok (.getfield 9, 3) := by decide +kernel
theorem dX6_addResource_44 : decode cX6_addResource 44 = .ok (.aload_n 0, 1) := by decide +kernel
theorem dX6_addResource_45 : decode cX6_addResource 45 = .ok (.getfield 63, 3) := by decide +kernel
theorem dX6_addResource_48 : decode cX6_addResource 48 = .ok (.iload_n 1, 1) := by decide +kernel
theorem dX6_addResource_49 : decode cX6_addResource 49 = .ok (.iastore, 1) := by decide +kernel
theorem dX6_addResource_50 : decode cX6_addResource 50 = .ok (.aload_n 0, 1) := by decide +kernel
theorem dX6_addResource_51 : decode cX6_addResource 51 = .ok (.dup, 1) := by decide +kernel
theorem dX6_addResource_52 : decode cX6_addResource 52 = .ok (.getfield 63, 3) := by decide +kernel
theorem dX6_addResource_55 : decode cX6_addResource 55 = .ok (.iconst 1, 1) := by decide +kernel
theorem dX6_addResource_56 : decode cX6_addResource 56 = .ok (.iadd, 1) := by decide +kernel
theorem dX6_addResource_57 : decode cX6_addResource 57 = .ok (.putfield 63, 3) := by decide +kernel
theorem dX6_addResource_60 : decode cX6_addResource 60 = .ok (.aload_n 0, 1) := by decide +kernel
theorem dX6_addResource_61 : decode cX6_addResource 61 = .ok (.invokevirtual 119, 3) := by decide +kernel
theorem dX6_addResource_64 : decode cX6_addResource 64 = .ok (.ifCond .ge 7, 3) := by decide +kernel
theorem dX6_addResource_67 : decode cX6_addResource 67 = .ok (.iconst (-1), 1) := by decide +kernel
theorem dX6_addResource_68 : decode cX6_addResource 68 = .ok (.goto 9, 3) := by decide +kernel
theorem dX6_addResource_71 : decode cX6_addResource 71 = .ok (.aload_n 0, 1) := by decide +kernel
theorem dX6_addResource_72 : decode cX6_addResource 72 = .ok (.getfield 63, 3) := by decide +kernel
theorem dX6_addResource_75 : decode cX6_addResource 75 = .ok (.iconst 1, 1) := by decide +kernel
theorem dX6_addResource_76 : decode cX6_addResource 76 = .ok (.isub, 1) := by decide +kernel
theorem dX6_addResource_77 : decode cX6_addResource 77 = .ok (.ireturn, 1) := by decide +kernel
theorem dX6_setCapacity_0 : decode cX6_setCapacity 0 = .ok (.aload_n 0, 1) := by decide +kernel
theorem dX6_setCapacity_1 : decode cX6_setCapacity 1 = .ok (.iconst 0, 1) := by decide +kernel
theorem dX6_setCapacity_2 : decode cX6_setCapacity 2 = .ok (.putfield 60, 3) := by decide +kernel
theorem dX6_setCapacity_5 : decode cX6_setCapacity 5 = .ok (.aload_n 0, 1) := by decide +kernel
theorem dX6_setCapacity_6 : decode cX6_setCapacity 6 = .ok (.iload_n 1, 1) := by decide +kernel
theorem dX6_setCapacity_7 : decode cX6_setCapacity 7 = .ok (.invokevirtual 122, 3) := by decide +kernel
theorem dX6_setCapacity_10 : decode cX6_setCapacity 10 = .ok (.ifCond .ne 9, 3) := by decide +kernel
theorem dX6_setCapacity_13 : decode cX6_setCapacity 13 = .ok (.aload_n 0, 1) := by decide +kernel
theorem dX6_setCapacity_14 : decode cX6_setCapacity 14 = .ok (.iconst 1, 1) := by decide +kernel
theorem dX6_setCapacity_15 : decode cX6_setCapacity 15 = .ok (.invokevirtual 116, 3) := by decide +kernel
theorem dX6_setCapacity_18 : decode cX6_setCapacity 18 = .ok (.ireturn, 1) := by decide +kernel
theorem dX6_setCapacity_19 : decode cX6_setCapacity 19 = .ok (.iload_n 2, 1) := by decide +kernel
theorem dX6_setCapacity_20 : decode cX6_setCapacity 20 = .ok (.ifCond .lt 8, 3) := by decide +kernel
theorem dX6_setCapacity_23 : decode cX6_setCapacity 23 = .ok (.iload_n 2, 1) := by decide +kernel
theorem dX6_setCapacity_24 : decode cX6_setCapacity 24 = .ok (.iconst 4, 1) := by decide +kernel
theorem dX6_setCapacity_25 : decode cX6_setCapacity 25 = .ok (.if_icmp .le 9, 3) := by decide +kernel
theorem dX6_setCapacity_28 : decode cX6_setCapacity 28 = .ok (.aload_n 0, 1) := by decide +kernel
theorem dX6_setCapacity_29 : decode cX6_setCapacity 29 = .ok (.iconst 2, 1) := by decide +kernel
theorem dX6_setCapacity_30 : decode cX6_setCapacity 30 = .ok (.invokevirtual 116, 3) := by decide +kernel
theorem dX6_setCapacity_33 : decode cX6_setCapacity 33 = .ok (.ireturn, 1) := by decide +kernel
theorem dX6_setCapacity_34 : decode cX6_setCapacity 34 = .ok (.aload_n 0, 1) := by decide +kernel
theorem dX6_setCapacity_35 : decode cX6_setCapacity 35 = .ok (.iconst 0, 1) := by decide +kernel
theorem dX6_setCapacity_36 : decode cX6_setCapacity 36 = .ok (.putfield 102, 3) := by decide +kernel
theorem dX6_setCapacity_39 : decode cX6_setCapacity 39 = .ok (.aload_n 0, 1) := by decide +kernel
theorem dX6_setCapacity_40 : decode cX6_setCapacity 40 = .ok (.getfield 9, 3) := by decide +kernel
theorem dX6_setCapacity_43 : decode cX6_setCapacity 43 = .ok (.iload_n 1, 1) := by decide +kernel
theorem dX6_setCapacity_44 : decode cX6_setCapacity 44 = .ok (.iload_n 2, 1) := by decide +kernel
theorem dX6_setCapacity_45 : decode cX6_setCapacity 45 = .ok (.iastore, 1) := by decide +kernel
theorem dX6_setCapacity_46 : decode cX6_setCapacity 46 = .ok (.iconst 0, 1) := by decide +kernel
theorem dX6_setCapacity_47 : decode cX6_setCapacity 47 = .ok (.istore_n 3, 1) := by decide +kernel
theorem dX6_setCapacity_48 : decode cX6_setCapacity 48 = .ok (.aload_n 0, 1) := by decide +kernel
theorem dX6_setCapacity_49 : decode cX6_setCapacity 49 = .ok (.getfield 66, 3) := by decide +kernel
theorem dX6_setCapacity_52 : decode cX6_setCapacity 52 = .ok (.iconst 1, 1) := by decide +kernel
theorem dX6_setCapacity_53 : decode cX6_setCapacity 53 = .ok (.isub, 1) := by decide +kernel
theorem dX6_setCapacity_54 : decode cX6_setCapacity 54 = .ok (.istore 4, 2) := by decide +kernel
theorem dX6_setCapacity_56 : decode cX6_setCapacity 56 = .ok (.iload 4, 2) := by decide +kernel
theorem dX6_setCapacity_58 : decode cX6_setCapacity 58 = .ok (.ifCond .lt 42, 3) := by decide +kernel
theorem dX6_setCapacity_61 : decode cX6_setCapacity 61 = .ok (.aload_n 0, 1) := by decide +kernel
theorem dX6_setCapacity_62 : decode cX6_setCapacity 62 = .ok (.iload 4, 2) := by decide +kernel
theorem dX6_setCapacity_64 : decode cX6_setCapacity 64 = .ok (.iload_n 1, 1) := by decide +kernel
theorem dX6_setCapacity_65 : decode cX6_setCapacity 65 = .ok (.invokevirtual 69, 3) := by decide +kernel
theorem dX6_setCapacity_68 : decode cX6_setCapacity 68 = .ok (.ifCond .eq 26, 3) := by decide +kernel
theorem dX6_setCapacity_71 : decode cX6_setCapacity 71 = .ok (.aload_n 0, 1) := by decide +kernel
theorem dX6_setCapacity_72 : decode cX6_setCapacity 72 = .ok (.iload_n 1, 1) := by decide +kernel
theorem dX6_setCapacity_73 : decode cX6_setCapacity 73 = .ok (.invokevirtual 73, 3) := by decide +kernel
theorem dX6_setCapacity_76 : decode cX6_setCapacity 76 = .ok (.iload_n 2, 1) := by decide +kernel
theorem dX6_setCapacity_77 : decode cX6_setCapacity 77 = .ok (.if_icmp .gt 6, 3) := by decide +kernel
theorem dX6_setCapacity_80 : decode cX6_setCapacity 80 = .ok (.goto 14, 3) := by decide +kernel
theorem dX6_setCapacity_83 : decode cX6_setCapacity 83 = .ok (.aload_n 0, 1) := by decide +kernel
theorem dX6_setCapacity_84 : decode cX6_setCapacity 84 = .ok (.getfield 25, 3) := by decide +kernel
theorem dX6_setCapacity_87 : decode cX6_setCapacity 87 = .ok (.iload 4, 2) := by decide +kernel
theorem dX6_setCapacity_89 : decode cX6_setCapacity 89 = .ok (.iconst 0, 1) := by decide +kernel
theorem dX6_setCapacity_90 : decode cX6_setCapacity 90 = .ok (.iastore, 1) := by decide +kernel
theorem dX6_setCapacity_91 : decode cX6_setCapacity 91 = .ok (.iinc 3 1, 3) := by decide +kernel
theorem dX6_setCapacity_94 : decode cX6_setCapacity 94 = .ok (.iinc 4 (-1), 3) := by decide +kernel
theorem dX6_setCapacity_97 : decode cX6_setCapacity 97 = .ok (.goto (-41), 3) := by decide +kernel
theorem dX6_setCapacity_100 : decode cX6_setCapacity 100 = .ok (.aload_n 0, 1) := by decide +kernel
theorem dX6_setCapacity_101 : decode cX6_setCapacity 101 = .ok (.invokevirtual 119, 3) := by decide +kernel
theorem dX6_setCapacity_104 : decode cX6_setCapacity 104 = .ok (.ifCond .ge 7, 3) := by decide +kernel
theorem dX6_setCapacity_107 : decode cX6_setCapacity 107 = .ok (.iconst (-1), 1) := by decide +kernel
theorem dX6_setCapacity_108 : decode cX6_setCapacity 108 = .ok (.goto 4, 3) := by decide +kernel
theorem dX6_setCapacity_111 : decode cX6_setCapacity 111 = .ok (.iload_n 3, 1) := by decide +kernel
theorem dX6_setCapacity_112 : decode cX6_setCapacity 112 = .ok (.ireturn, 1) := by decide +kernel
theorem dX6_setGroup_0 : decode cX6_setGroup 0 = .ok (.aload_n 0, 1) := by decide +kernel
theorem dX6_setGroup_1 : decode cX6_setGroup 1 = .ok (.iconst 0, 1) := by decide +kernel
theorem dX6_setGroup_2 : decode cX6_setGroup 2 = .ok (.putfield 60, 3) := by decide +kernel
theorem dX6_setGroup_5 : decode cX6_setGroup 5 = .ok (.iload_n 1, 1) := by decide +kernel
theorem dX6_setGroup_6 : decode cX6_setGroup 6 = .ok (.invokestatic 125, 3) := by decide +kernel
theorem dX6_setGroup_9 : decode cX6_setGroup 9 = .ok (.ifCond .ne 9, 3) := by decide +kernel
theorem dX6_setGroup_12 : decode cX6_setGroup 12 = .ok (.aload_n 0, 1) := by decide +kernel
theorem dX6_setGroup_13 : decode cX6_setGroup 13 = .ok (.iconst 1, 1) := by decide +kernel
theorem dX6_setGroup_14 : decode cX6_setGroup 14 = .ok (.invokevirtual 116, 3) := by decide +kernel
theorem dX6_setGroup_17 : decode cX6_setGroup 17 = .ok (.ireturn, 1) := by decide +kernel
theorem dX6_setGroup_18 : decode cX6_setGroup 18 = .ok (.iload_n 2, 1) := by decide +kernel
theorem dX6_setGroup_19 : decode cX6_setGroup 19 = .ok (.ifCond .lt 20, 3) := by decide +kernel
theorem dX6_setGroup_22 : decode cX6_setGroup 22 = .ok (.iload_n 2, 1) := by decide +kernel
theorem dX6_setGroup_23 : decode cX6_setGroup 23 = .ok (.bipush 40, 2) := by decide +kernel
theorem dX6_setGroup_25 : decode cX6_setGroup 25 = .ok (.if_icmp .gt 14, 3) := by decide +kernel
theorem dX6_setGroup_28 : decode cX6_setGroup 28 = .ok (.iload_n 3, 1) := by decide +kernel
theorem dX6_setGroup_29 : decode cX6_setGroup 29 = .ok (.iconst 1, 1) := by decide +kernel
theorem dX6_setGroup_30 : decode cX6_setGroup 30 = .ok (.if_icmp .lt 9, 3) := by decide +kernel
theorem dX6_setGroup_33 : decode cX6_setGroup 33 = .ok (.iload_n 3, 1) := by decide +kernel
theorem dX6_setGroup_34 : decode cX6_setGroup 34 = .ok (.bipush 10, 2) := by decide +kernel
theorem dX6_setGroup_36 : decode cX6_setGroup 36 = .ok (.if_icmp .le 9, 3) := by decide +kernel
theorem dX6_setGroup_39 : decode cX6_setGroup 39 = .ok (.aload_n 0, 1) := by decide +kernel
theorem dX6_setGroup_40 : decode cX6_setGroup 40 = .ok (.iconst 2, 1) := by decide +kernel
theorem dX6_setGroup_41 : decode cX6_setGroup 41 = .ok (.invokevirtual 116, 3) := by decide +kernel
theorem dX6_setGroup_44 : decode cX6_setGroup 44 = .ok (.ireturn, 1) := by decide +kernel
theorem dX6_setGroup_45 : decode cX6_setGroup 45 = .ok (.aload_n 0, 1) := by decide +kernel
theorem dX6_setGroup_46 : decode cX6_setGroup 46 = .ok (.iconst 0, 1) := by decide +kernel
theorem dX6_setGroup_47 : decode cX6_setGroup 47 = .ok (.putfield 102, 3) := by decide +kernel
theorem dX6_setGroup_50 : decode cX6_setGroup 50 = .ok (.aload_n 0, 1) := by decide +kernel
theorem dX6_setGroup_51 : decode cX6_setGroup 51 = .ok (.getfield 13, 3) := by decide +kernel
theorem dX6_setGroup_54 : decode cX6_setGroup 54 = .ok (.iload_n 1, 1) := by decide +kernel
theorem dX6_setGroup_55 : decode cX6_setGroup 55 = .ok (.iload_n 2, 1) := by decide +kernel
theorem dX6_setGroup_56 : decode cX6_setGroup 56 = .ok (.iastore, 1) := by decide +kernel
theorem dX6_setGroup_57 : decode cX6_setGroup 57 = .ok (.aload_n 0, 1) := by decide +kernel
theorem dX6_setGroup_58 : decode cX6_setGroup 58 = .ok (.getfield 16, 3) := by decide +kernel
theorem dX6_setGroup_61 : decode cX6_setGroup 61 = .ok (.iload_n 1, 1) := by decide +kernel
theorem dX6_setGroup_62 : decode cX6_setGroup 62 = .ok (.iload_n 3, 1) := by decide +kernel
theorem dX6_setGroup_63 : decode cX6_setGroup 63 = .ok (.iastore, 1) := by decide +kernel
theorem dX6_setGroup_64 : decode cX6_setGroup 64 = .ok (.iconst 0, 1) := by decide +kernel
theorem dX6_setGroup_65 : decode cX6_setGroup 65 = .ok (.istore 4, 2) := by decide +kernel
theorem dX6_setGroup_67 : decode cX6_setGroup 67 = .ok (.aload_n 0, 1) := by decide +kernel
theorem dX6_setGroup_68 : decode cX6_setGroup 68 = .ok (.getfield 66, 3) := by decide +kernel
theorem dX6_setGroup_71 : decode cX6_setGroup 71 = .ok (.iconst 1, 1) := by decide +kernel
theorem dX6_setGroup_72 : decode cX6_setGroup 72 = .ok (.isub, 1) := by decide +kernel
theorem dX6_setGroup_73 : decode cX6_setGroup 73 = .ok (.istore 5, 2) := by decide +kernel
theorem dX6_setGroup_75 : decode cX6_setGroup 75 = .ok (.iload 5, 2) := by decide +kernel
theorem dX6_setGroup_77 : decode cX6_setGroup 77 = .ok (.ifCond .lt 54, 3) := by decide +kernel
theorem dX6_setGroup_80 : decode cX6_setGroup 80 = .ok (.aload_n 0, 1) := by decide +kernel
theorem dX6_setGroup_81 : decode cX6_setGroup 81 = .ok (.getfield 25, 3) := by decide +kernel
theorem dX6_setGroup_84 : decode cX6_setGroup 84 = .ok (.iload 5, 2) := by decide +kernel
theorem dX6_setGroup_86 : decode cX6_setGroup 86 = .ok (.iaload, 1) := by decide +kernel
theorem dX6_setGroup_87 : decode cX6_setGroup 87 = .ok (.iconst 1, 1) := by decide +kernel
theorem dX6_setGroup_88 : decode cX6_setGroup 88 = .ok (.if_icmp .ne 37, 3) := by decide +kernel
theorem dX6_setGroup_91 : decode cX6_setGroup 91 = .ok (.aload_n 0, 1) := by decide +kernel
theorem dX6_setGroup_92 : decode cX6_setGroup 92 = .ok (.getfield 19, 3) := by decide +kernel
theorem dX6_setGroup_95 : decode cX6_setGroup 95 = .ok (.iload 5, 2) := by decide +kernel
theorem dX6_setGroup_97 : decode cX6_setGroup 97 = .ok (.iaload, 1) := by decide +kernel
theorem dX6_setGroup_98 : decode cX6_setGroup 98 = .ok (.iload_n 1, 1) := by decide +kernel
theorem dX6_setGroup_99 : decode cX6_setGroup 99 = .ok (.if_icmp .ne 26, 3) := by decide +kernel
theorem dX6_setGroup_102 : decode cX6_setGroup 102 = .ok (.aload_n 0, 1) := by decide +kernel
theorem dX6_setGroup_103 : decode cX6_setGroup 103 = .ok (.iload_n 1, 1) := by decide +kernel
theorem dX6_setGroup_104 : decode cX6_setGroup 104 = .ok (.invokevirtual 89, 3) := by decide +kernel
theorem dX6_setGroup_107 : decode cX6_setGroup 107 = .ok (.iload_n 2, 1) := by decide +kernel
theorem dX6_setGroup_108 : decode cX6_setGroup 108 = .ok (.if_icmp .gt 6, 3) := by decide +kernel
theorem dX6_setGroup_111 : decode cX6_setGroup 111 = .ok (.goto 14, 3) := by decide +kernel
theorem dX6_setGroup_114 : decode cX6_setGroup 114 = .ok (.aload_n 0, 1) := by decide +kernel
theorem dX6_setGroup_115 : decode cX6_setGroup 115 = .ok (.getfield 25, 3) := by decide +kernel
theorem dX6_setGroup_118 : decode cX6_setGroup 118 = .ok (.iload 5, 2) := by decide +kernel
theorem dX6_setGroup_120 : decode cX6_setGroup 120 = .ok (.iconst 0, 1) := by decide +kernel
theorem dX6_setGroup_121 : decode cX6_setGroup 121 = .ok (.iastore, 1) := by decide +kernel
theorem dX6_setGroup_122 : decode cX6_setGroup 122 = .ok (.iinc 4 1, 3) := by decide +kernel
theorem dX6_setGroup_125 : decode cX6_setGroup 125 = .ok (.iinc 5 (-1), 3) := by decide +kernel
theorem dX6_setGroup_128 : decode cX6_setGroup 128 = .ok (.goto (-53), 3) := by decide +kernel
theorem dX6_setGroup_131 : decode cX6_setGroup 131 = .ok (.aload_n 0, 1) := by decide +kernel
theorem dX6_setGroup_132 : decode cX6_setGroup 132 = .ok (.invokevirtual 119, 3) := by decide +kernel
theorem dX6_setGroup_135 : decode cX6_setGroup 135 = .ok (.ifCond .ge 7, 3) := by decide +kernel
theorem dX6_setGroup_138 : decode cX6_setGroup 138 = .ok (.iconst (-1), 1) := by decide +kernel
theorem dX6_setGroup_139 : decode cX6_setGroup 139 = .ok (.goto 5, 3) := by decide +kernel
theorem dX6_setGroup_142 : decode cX6_setGroup 142 = .ok (.iload 4, 2) := by decide +kernel
theorem dX6_setGroup_144 : decode cX6_setGroup 144 = .ok (.ireturn, 1) := by decide +kernel
theorem dX6_setLimits_0 : decode cX6_setLimits 0 = .ok (.aload_n 0, 1) := by decide +kernel
theorem dX6_setLimits_1 : decode cX6_setLimits 1 = .ok (.iconst 0, 1) := by decide +kernel
theorem dX6_setLimits_2 : decode cX6_setLimits 2 = .ok (.putfield 60, 3) := by decide +kernel
theorem dX6_setLimits_5 : decode cX6_setLimits 5 = .ok (.iload_n 1, 1) := by decide +kernel
theorem dX6_setLimits_6 : decode cX6_setLimits 6 = .ok (.ifCond .lt 18, 3) := by decide +kernel
theorem dX6_setLimits_9 : decode cX6_setLimits 9 = .ok (.iload_n 1, 1) := by decide +kernel
theorem dX6_setLimits_10 : decode cX6_setLimits 10 = .ok (.iconst 5, 1) := by decide +kernel
theorem dX6_setLimits_11 : decode cX6_setLimits 11 = .ok (.if_icmp .gt 13, 3) := by decide +kernel
theorem dX6_setLimits_14 : decode cX6_setLimits 14 = .ok (.iload_n 2, 1) := by decide +kernel
theorem dX6_setLimits_15 : decode cX6_setLimits 15 = .ok (.ifCond .lt 9, 3) := by decide +kernel
theorem dX6_setLimits_18 : decode cX6_setLimits 18 = .ok (.iload_n 2, 1) := by decide +kernel
theorem dX6_setLimits_19 : decode cX6_setLimits 19 = .ok (.bipush 20, 2) := by decide +kernel
theorem dX6_setLimits_21 : decode cX6_setLimits 21 = .ok (.if_icmp .le 9, 3) := by decide +kernel
theorem dX6_setLimits_24 : decode cX6_setLimits 24 = .ok (.aload_n 0, 1) := by decide +kernel
theorem dX6_setLimits_25 : decode cX6_setLimits 25 = .ok (.iconst 1, 1) := by decide +kernel
theorem dX6_setLimits_26 : decode cX6_setLimits 26 = .ok (.invokevirtual 116, 3) := by decide +kernel
theorem dX6_setLimits_29 : decode cX6_setLimits 29 = .ok (.ireturn, 1) := by decide +kernel
theorem dX6_setLimits_30 : decode cX6_setLimits 30 = .ok (.aload_n 0, 1) := by decide +kernel
theorem dX6_setLimits_31 : decode cX6_setLimits 31 = .ok (.iconst 0, 1) := by decide +kernel
theorem dX6_setLimits_32 : decode cX6_setLimits 32 = .ok (.putfield 102, 3) := by decide +kernel
theorem dX6_setLimits_35 : decode cX6_setLimits 35 = .ok (.aload_n 0, 1) := by decide +kernel
theorem dX6_setLimits_36 : decode cX6_setLimits 36 = .ok (.iload_n 1, 1) := by decide +kernel
theorem dX6_setLimits_37 : decode cX6_setLimits 37 = .ok (.putfield 34, 3) := by decide +kernel
theorem dX6_setLimits_40 : decode cX6_setLimits 40 = .ok (.aload_n 0, 1) := by decide +kernel
theorem dX6_setLimits_41 : decode cX6_setLimits 41 = .ok (.iload_n 2, 1) := by decide +kernel
theorem dX6_setLimits_42 : decode cX6_setLimits 42 = .ok (.putfield 38, 3) := by decide +kernel
theorem dX6_setLimits_45 : decode cX6_setLimits 45 = .ok (.aload_n 0, 1) := by decide +kernel
theorem dX6_setLimits_46 : decode cX6_setLimits 46 = .ok (.invokevirtual 119, 3) := by decide +kernel
theorem dX6_setLimits_49 : decode cX6_setLimits 49 = .ok (.ireturn, 1) := by decide +kernel
theorem dX6_arrive_0 : decode cX6_arrive 0 = .ok (.aload_n 0, 1) := by decide +kernel
theorem dX6_arrive_1 : decode cX6_arrive 1 = .ok (.iconst 0, 1) := by decide +kernel
theorem dX6_arrive_2 : decode cX6_arrive 2 = .ok (.putfield 60, 3) := by decide +kernel
theorem dX6_arrive_5 : decode cX6_arrive 5 = .ok (.iload_n 1, 1) := by decide +kernel
theorem dX6_arrive_6 : decode cX6_arrive 6 = .ok (.invokestatic 125, 3) := by decide +kernel
theorem dX6_arrive_9 : decode cX6_arrive 9 = .ok (.ifCond .ne 9, 3) := by decide +kernel
theorem dX6_arrive_12 : decode cX6_arrive 12 = .ok (.aload_n 0, 1) := by decide +kernel
theorem dX6_arrive_13 : decode cX6_arrive 13 = .ok (.iconst 1, 1) := by decide +kernel
theorem dX6_arrive_14 : decode cX6_arrive 14 = .ok (.invokevirtual 116, 3) := by decide +kernel
theorem dX6_arrive_17 : decode cX6_arrive 17 = .ok (.ireturn, 1) := by decide +kernel
theorem dX6_arrive_18 : decode cX6_arrive 18 = .ok (.aload_n 0, 1) := by decide +kernel
theorem dX6_arrive_19 : decode cX6_arrive 19 = .ok (.iload_n 2, 1) := by decide +kernel
theorem dX6_arrive_20 : decode cX6_arrive 20 = .ok (.invokevirtual 128, 3) := by decide +kernel
theorem dX6_arrive_23 : decode cX6_arrive 23 = .ok (.ifCond .ne 9, 3) := by decide +kernel
theorem dX6_arrive_26 : decode cX6_arrive 26 = .ok (.aload_n 0, 1) := by decide +kernel
theorem dX6_arrive_27 : decode cX6_arrive 27 = .ok (.iconst 2, 1) := by decide +kernel
theorem dX6_arrive_28 : decode cX6_arrive 28 = .ok (.invokevirtual 116, 3) := by decide +kernel
theorem dX6_arrive_31 : decode cX6_arrive 31 = .ok (.ireturn, 1) := by decide +kernel
theorem dX6_arrive_32 : decode cX6_arrive 32 = .ok (.aload_n 0, 1) := by decide +kernel
theorem dX6_arrive_33 : decode cX6_arrive 33 = .ok (.getfield 66, 3) := by decide +kernel
theorem dX6_arrive_36 : decode cX6_arrive 36 = .ok (.bipush 40, 2) := by decide +kernel
theorem dX6_arrive_38 : decode cX6_arrive 38 = .ok (.if_icmp .ne 9, 3) := by decide +kernel
theorem dX6_arrive_41 : decode cX6_arrive 41 = .ok (.aload_n 0, 1) := by decide +kernel
theorem dX6_arrive_42 : decode cX6_arrive 42 = .ok (.iconst 3, 1) := by decide +kernel
theorem dX6_arrive_43 : decode cX6_arrive 43 = .ok (.invokevirtual 116, 3) := by decide +kernel
theorem dX6_arrive_46 : decode cX6_arrive 46 = .ok (.ireturn, 1) := by decide +kernel
theorem dX6_arrive_47 : decode cX6_arrive 47 = .ok (.aload_n 0, 1) := by decide +kernel
theorem dX6_arrive_48 : decode cX6_arrive 48 = .ok (.iconst 0, 1) := by decide +kernel
theorem dX6_arrive_49 : decode cX6_arrive 49 = .ok (.putfield 102, 3) := by decide +kernel
theorem dX6_arrive_52 : decode cX6_arrive 52 = .ok (.aload_n 0, 1) := by decide +kernel
theorem dX6_arrive_53 : decode cX6_arrive 53 = .ok (.getfield 66, 3) := by decide +kernel
theorem dX6_arrive_56 : decode cX6_arrive 56 = .ok (.istore_n 3, 1) := by decide +kernel
theorem dX6_arrive_57 : decode cX6_arrive 57 = .ok (.aload_n 0, 1) := by decide +kernel
theorem dX6_arrive_58 : decode cX6_arrive 58 = .ok (.getfield 19, 3) := by decide +kernel
theorem dX6_arrive_61 : decode cX6_arrive 61 = .ok (.iload_n 3, 1) := by decide +kernel
theorem dX6_arrive_62 : decode cX6_arrive 62 = .ok (.iload_n 1, 1) := by decide +kernel
theorem dX6_arrive_63 : decode cX6_arrive 63 = .ok (.iastore, 1) := by decide +kernel
theorem dX6_arrive_64 : decode cX6_arrive 64 = .ok (.aload_n 0, 1) := by decide +kernel
theorem dX6_arrive_65 : decode cX6_arrive 65 = .ok (.getfield 22, 3) := by decide +kernel
theorem dX6_arrive_68 : decode cX6_arrive 68 = .ok (.iload_n 3, 1) := by decide +kernel
theorem dX6_arrive_69 : decode cX6_arrive 69 = .ok (.iload_n 2, 1) := by decide +kernel
theorem dX6_arrive_70 : decode cX6_arrive 70 = .ok (.iastore, 1) := by decide +kernel
theorem dX6_arrive_71 : decode cX6_arrive 71 = .ok (.aload_n 0, 1) := by decide +kernel
theorem dX6_arrive_72 : decode cX6_arrive 72 = .ok (.getfield 25, 3) := by decide +kernel
theorem dX6_arrive_75 : decode cX6_arrive 75 = .ok (.iload_n 3, 1) := by decide +kernel
theorem dX6_arrive_76 : decode cX6_arrive 76 = .ok (.iconst 0, 1) := by decide +kernel
theorem dX6_arrive_77 : decode cX6_arrive 77 = .ok (.iastore, 1) := by decide +kernel
theorem dX6_arrive_78 : decode cX6_arrive 78 = .ok (.aload_n 0, 1) := by decide +kernel
theorem dX6_arrive_79 : decode cX6_arrive 79 = .ok (.dup, 1) := by decide +kernel
theorem dX6_arrive_80 : decode cX6_arrive 80 = .ok (.getfield 66, 3) := by decide +kernel
theorem dX6_arrive_83 : decode cX6_arrive 83 = .ok (.iconst 1, 1) := by decide +kernel
theorem dX6_arrive_84 : decode cX6_arrive 84 = .ok (.iadd, 1) := by decide +kernel
theorem dX6_arrive_85 : decode cX6_arrive 85 = .ok (.putfield 66, 3) := by decide +kernel
theorem dX6_arrive_88 : decode cX6_arrive 88 = .ok (.aload_n 0, 1) := by decide +kernel
theorem dX6_arrive_89 : decode cX6_arrive 89 = .ok (.iload_n 3, 1) := by decide +kernel
theorem dX6_arrive_90 : decode cX6_arrive 90 = .ok (.invokevirtual 109, 3) := by decide +kernel
theorem dX6_arrive_93 : decode cX6_arrive 93 = .ok (.ifCond .eq 12, 3) := by decide +kernel
theorem dX6_arrive_96 : decode cX6_arrive 96 = .ok (.aload_n 0, 1) := by decide +kernel
theorem dX6_arrive_97 : decode cX6_arrive 97 = .ok (.getfield 66, 3) := by decide +kernel
theorem dX6_arrive_100 : decode cX6_arrive 100 = .ok (.iconst 1, 1) := by decide +kernel
theorem dX6_arrive_101 : decode cX6_arrive 101 = .ok (.isub, 1) := by decide +kernel
theorem dX6_arrive_102 : decode cX6_arrive 102 = .ok (.goto 4, 3) := by decide +kernel
theorem dX6_arrive_105 : decode cX6_arrive 105 = .ok (.iload_n 3, 1) := by decide +kernel
theorem dX6_arrive_106 : decode cX6_arrive 106 = .ok (.ireturn, 1) := by decide +kernel
theorem dX6_depart_0 : decode cX6_depart 0 = .ok (.aload_n 0, 1) := by decide +kernel
theorem dX6_depart_1 : decode cX6_depart 1 = .ok (.iconst 0, 1) := by decide +kernel
theorem dX6_depart_2 : decode cX6_depart 2 = .ok (.putfield 60, 3) := by decide +kernel
theorem dX6_depart_5 : decode cX6_depart 5 = .ok (.aload_n 0, 1) := by decide +kernel
theorem dX6_depart_6 : decode cX6_depart 6 = .ok (.iload_n 1, 1) := by decide +kernel
theorem dX6_depart_7 : decode cX6_depart 7 = .ok (.invokevirtual 131, 3) := by decide +kernel
theorem dX6_depart_10 : decode cX6_depart 10 = .ok (.ifCond .ne 9, 3) := by decide +kernel
theorem dX6_depart_13 : decode cX6_depart 13 = .ok (.aload_n 0, 1) := by decide +kernel
theorem dX6_depart_14 : decode cX6_depart 14 = .ok (.iconst 1, 1) := by decide +kernel
theorem dX6_depart_15 : decode cX6_depart 15 = .ok (.invokevirtual 116, 3) := by decide +kernel
theorem dX6_depart_18 : decode cX6_depart 18 = .ok (.ireturn, 1) := by decide +kernel
theorem dX6_depart_19 : decode cX6_depart 19 = .ok (.aload_n 0, 1) := by decide +kernel
theorem dX6_depart_20 : decode cX6_depart 20 = .ok (.getfield 25, 3) := by decide +kernel
theorem dX6_depart_23 : decode cX6_depart 23 = .ok (.iload_n 1, 1) := by decide +kernel
theorem dX6_depart_24 : decode cX6_depart 24 = .ok (.iaload, 1) := by decide +kernel
theorem dX6_depart_25 : decode cX6_depart 25 = .ok (.iconst 2, 1) := by decide +kernel
theorem dX6_depart_26 : decode cX6_depart 26 = .ok (.if_icmp .ne 9, 3) := by decide +kernel
theorem dX6_depart_29 : decode cX6_depart 29 = .ok (.aload_n 0, 1) := by decide +kernel
theorem dX6_depart_30 : decode cX6_depart 30 = .ok (.iconst 2, 1) := by decide +kernel
theorem dX6_depart_31 : decode cX6_depart 31 = .ok (.invokevirtual 116, 3) := by decide +kernel
theorem dX6_depart_34 : decode cX6_depart 34 = .ok (.ireturn, 1) := by decide +kernel
theorem dX6_depart_35 : decode cX6_depart 35 = .ok (.aload_n 0, 1) := by decide +kernel
theorem dX6_depart_36 : decode cX6_depart 36 = .ok (.iconst 0, 1) := by decide +kernel
theorem dX6_depart_37 : decode cX6_depart 37 = .ok (.putfield 102, 3) := by decide +kernel
theorem dX6_depart_40 : decode cX6_depart 40 = .ok (.aload_n 0, 1) := by decide +kernel
theorem dX6_depart_41 : decode cX6_depart 41 = .ok (.getfield 25, 3) := by decide +kernel
theorem dX6_depart_44 : decode cX6_depart 44 = .ok (.iload_n 1, 1) := by decide +kernel
theorem dX6_depart_45 : decode cX6_depart 45 = .ok (.iconst 2, 1) := by decide +kernel
theorem dX6_depart_46 : decode cX6_depart 46 = .ok (.iastore, 1) := by decide +kernel
theorem dX6_depart_47 : decode cX6_depart 47 = .ok (.aload_n 0, 1) := by decide +kernel
theorem dX6_depart_48 : decode cX6_depart 48 = .ok (.invokevirtual 119, 3) := by decide +kernel
theorem dX6_depart_51 : decode cX6_depart 51 = .ok (.ireturn, 1) := by decide +kernel
theorem dX6_setAccepts_0 : decode cX6_setAccepts 0 = .ok (.aload_n 0, 1) := by decide +kernel
theorem dX6_setAccepts_1 : decode cX6_setAccepts 1 = .ok (.iconst 0, 1) := by decide +kernel
theorem dX6_setAccepts_2 : decode cX6_setAccepts 2 = .ok (.putfield 60, 3) := by decide +kernel
theorem dX6_setAccepts_5 : decode cX6_setAccepts 5 = .ok (.aload_n 0, 1) := by decide +kernel
theorem dX6_setAccepts_6 : decode cX6_setAccepts 6 = .ok (.iload_n 1, 1) := by decide +kernel
theorem dX6_setAccepts_7 : decode cX6_setAccepts 7 = .ok (.invokevirtual 131, 3) := by decide +kernel
theorem dX6_setAccepts_10 : decode cX6_setAccepts 10 = .ok (.ifCond .ne 17, 3) := by decide +kernel
theorem dX6_setAccepts_13 : decode cX6_setAccepts 13 = .ok (.aload_n 0, 1) := by decide +kernel
theorem dX6_setAccepts_14 : decode cX6_setAccepts 14 = .ok (.iconst 1, 1) := by decide +kernel
theorem dX6_setAccepts_15 : decode cX6_setAccepts 15 = .ok (.invokevirtual 116, 3) := by decide +kernel
theorem dX6_setAccepts_18 : decode cX6_setAccepts 18 = .ok (.ifCond .eq 7, 3) := by decide +kernel
theorem dX6_setAccepts_21 : decode cX6_setAccepts 21 = .ok (.iconst 1, 1) := by decide +kernel
theorem dX6_setAccepts_22 : decode cX6_setAccepts 22 = .ok (.goto 4, 3) := by decide +kernel
theorem dX6_setAccepts_25 : decode cX6_setAccepts 25 = .ok (.iconst 0, 1) := by decide +kernel
theorem dX6_setAccepts_26 : decode cX6_setAccepts 26 = .ok (.ireturn, 1) := by decide +kernel
theorem dX6_setAccepts_27 : decode cX6_setAccepts 27 = .ok (.aload_n 0, 1) := by decide +kernel
theorem dX6_setAccepts_28 : decode cX6_setAccepts 28 = .ok (.getfield 25, 3) := by decide +kernel
theorem dX6_setAccepts_31 : decode cX6_setAccepts 31 = .ok (.iload_n 1, 1) := by decide +kernel
theorem dX6_setAccepts_32 : decode cX6_setAccepts 32 = .ok (.iaload, 1) := by decide +kernel
theorem dX6_setAccepts_33 : decode cX6_setAccepts 33 = .ok (.iconst 2, 1) := by decide +kernel
theorem dX6_setAccepts_34 : decode cX6_setAccepts 34 = .ok (.if_icmp .ne 17, 3) := by decide +kernel
theorem dX6_setAccepts_37 : decode cX6_setAccepts 37 = .ok (.aload_n 0, 1) := by decide +kernel
theorem dX6_setAccepts_38 : decode cX6_setAccepts 38 = .ok (.iconst 2, 1) := by decide +kernel
theorem dX6_setAccepts_39 : decode cX6_setAccepts 39 = .ok (.invokevirtual 116, 3) := by decide +kernel
theorem dX6_setAccepts_42 : decode cX6_setAccepts 42 = .ok (.ifCond .eq 7, 3) := by decide +kernel
theorem dX6_setAccepts_45 : decode cX6_setAccepts 45 = .ok (.iconst 1, 1) := by decide +kernel
theorem dX6_setAccepts_46 : decode cX6_setAccepts 46 = .ok (.goto 4, 3) := by decide +kernel
theorem dX6_setAccepts_49 : decode cX6_setAccepts 49 = .ok (.iconst 0, 1) := by decide +kernel
theorem dX6_setAccepts_50 : decode cX6_setAccepts 50 = .ok (.ireturn, 1) := by decide +kernel
theorem dX6_setAccepts_51 : decode cX6_setAccepts 51 = .ok (.aload_n 0, 1) := by decide +kernel
theorem dX6_setAccepts_52 : decode cX6_setAccepts 52 = .ok (.iload_n 2, 1) := by decide +kernel
theorem dX6_setAccepts_53 : decode cX6_setAccepts 53 = .ok (.invokevirtual 128, 3) := by decide +kernel
theorem dX6_setAccepts_56 : decode cX6_setAccepts 56 = .ok (.ifCond .ne 17, 3) := by decide +kernel
theorem dX6_setAccepts_59 : decode cX6_setAccepts 59 = .ok (.aload_n 0, 1) := by decide +kernel
theorem dX6_setAccepts_60 : decode cX6_setAccepts 60 = .ok (.iconst 3, 1) := by decide +kernel
theorem dX6_setAccepts_61 : decode cX6_setAccepts 61 = .ok (.invokevirtual 116, 3) := by decide +kernel
theorem dX6_setAccepts_64 : decode cX6_setAccepts 64 = .ok (.ifCond .eq 7, 3) := by decide +kernel
theorem dX6_setAccepts_67 : decode cX6_setAccepts 67 = .ok (.iconst 1, 1) := by decide +kernel
theorem dX6_setAccepts_68 : decode cX6_setAccepts 68 = .ok (.goto 4, 3) := by decide +kernel
theorem dX6_setAccepts_71 : decode cX6_setAccepts 71 = .ok (.iconst 0, 1) := by decide +kernel
theorem dX6_setAccepts_72 : decode cX6_setAccepts 72 = .ok (.ireturn, 1) := by decide +kernel
theorem dX6_setAccepts_73 : decode cX6_setAccepts 73 = .ok (.aload_n 0, 1) := by decide +kernel
theorem dX6_setAccepts_74 : decode cX6_setAccepts 74 = .ok (.iconst 0, 1) := by decide +kernel
theorem dX6_setAccepts_75 : decode cX6_setAccepts 75 = .ok (.putfield 102, 3) := by decide +kernel
theorem dX6_setAccepts_78 : decode cX6_setAccepts 78 = .ok (.aload_n 0, 1) := by decide +kernel
theorem dX6_setAccepts_79 : decode cX6_setAccepts 79 = .ok (.getfield 22, 3) := by decide +kernel
theorem dX6_setAccepts_82 : decode cX6_setAccepts 82 = .ok (.iload_n 1, 1) := by decide +kernel
theorem dX6_setAccepts_83 : decode cX6_setAccepts 83 = .ok (.iload_n 2, 1) := by decide +kernel
theorem dX6_setAccepts_84 : decode cX6_setAccepts 84 = .ok (.iastore, 1) := by decide +kernel
theorem dX6_setAccepts_85 : decode cX6_setAccepts 85 = .ok (.aload_n 0, 1) := by decide +kernel
theorem dX6_setAccepts_86 : decode cX6_setAccepts 86 = .ok (.getfield 25, 3) := by decide +kernel
theorem dX6_setAccepts_89 : decode cX6_setAccepts 89 = .ok (.iload_n 1, 1) := by decide +kernel
theorem dX6_setAccepts_90 : decode cX6_setAccepts 90 = .ok (.iaload, 1) := by decide +kernel
theorem dX6_setAccepts_91 : decode cX6_setAccepts 91 = .ok (.iconst 1, 1) := by decide +kernel
theorem dX6_setAccepts_92 : decode cX6_setAccepts 92 = .ok (.if_icmp .ne 24, 3) := by decide +kernel
theorem dX6_setAccepts_95 : decode cX6_setAccepts 95 = .ok (.aload_n 0, 1) := by decide +kernel
theorem dX6_setAccepts_96 : decode cX6_setAccepts 96 = .ok (.iload_n 1, 1) := by decide +kernel
theorem dX6_setAccepts_97 : decode cX6_setAccepts 97 = .ok (.aload_n 0, 1) := by decide +kernel
theorem dX6_setAccepts_98 : decode cX6_setAccepts 98 = .ok (.getfield 28, 3) := by decide +kernel
theorem dX6_setAccepts_101 : decode cX6_setAccepts 101 = .ok (.iload_n 1, 1) := by decide +kernel
theorem dX6_setAccepts_102 : decode cX6_setAccepts 102 = .ok (.iaload, 1) := by decide +kernel
theorem dX6_setAccepts_103 : decode cX6_setAccepts 103 = .ok (.invokevirtual 83, 3) := by decide +kernel
theorem dX6_setAccepts_106 : decode cX6_setAccepts 106 = .ok (.ifCond .ne 10, 3) := by decide +kernel
theorem dX6_setAccepts_109 : decode cX6_setAccepts 109 = .ok (.aload_n 0, 1) := by decide +kernel
theorem dX6_setAccepts_110 : decode cX6_setAccepts 110 = .ok (.getfield 25, 3) := by decide +kernel
theorem dX6_setAccepts_113 : decode cX6_setAccepts 113 = .ok (.iload_n 1, 1) := by decide +kernel
theorem dX6_setAccepts_114 : decode cX6_setAccepts 114 = .ok (.iconst 0, 1) := by decide +kernel
theorem dX6_setAccepts_115 : decode cX6_setAccepts 115 = .ok (.iastore, 1) := by decide +kernel
theorem dX6_setAccepts_116 : decode cX6_setAccepts 116 = .ok (.aload_n 0, 1) := by decide +kernel
theorem dX6_setAccepts_117 : decode cX6_setAccepts 117 = .ok (.invokevirtual 119, 3) := by decide +kernel
theorem dX6_setAccepts_120 : decode cX6_setAccepts 120 = .ok (.ifCond .lt 17, 3) := by decide +kernel
theorem dX6_setAccepts_123 : decode cX6_setAccepts 123 = .ok (.aload_n 0, 1) := by decide +kernel
theorem dX6_setAccepts_124 : decode cX6_setAccepts 124 = .ok (.getfield 25, 3) := by decide +kernel
theorem dX6_setAccepts_127 : decode cX6_setAccepts 127 = .ok (.iload_n 1, 1) := by decide +kernel
theorem dX6_setAccepts_128 : decode cX6_setAccepts 128 = .ok (.iaload, 1) := by decide +kernel
theorem dX6_setAccepts_129 : decode cX6_setAccepts 129 = .ok (.iconst 1, 1) := by decide +kernel
theorem dX6_setAccepts_130 : decode cX6_setAccepts 130 = .ok (.if_icmp .ne 7, 3) := by decide +kernel
theorem dX6_setAccepts_133 : decode cX6_setAccepts 133 = .ok (.iconst 1, 1) := by decide +kernel
theorem dX6_setAccepts_134 : decode cX6_setAccepts 134 = .ok (.goto 4, 3) := by decide +kernel
theorem dX6_setAccepts_137 : decode cX6_setAccepts 137 = .ok (.iconst 0, 1) := by decide +kernel
theorem dX6_setAccepts_138 : decode cX6_setAccepts 138 = .ok (.ireturn, 1) := by decide +kernel
theorem dX6_resourceCount_0 : decode cX6_resourceCount 0 = .ok (.aload_n 0, 1) := by decide +kernel
theorem dX6_resourceCount_1 : decode cX6_resourceCount 1 = .ok (.iconst 0, 1) := by decide +kernel
theorem dX6_resourceCount_2 : decode cX6_resourceCount 2 = .ok (.putfield 60, 3) := by decide +kernel
theorem dX6_resourceCount_5 : decode cX6_resourceCount 5 = .ok (.aload_n 0, 1) := by decide +kernel
theorem dX6_resourceCount_6 : decode cX6_resourceCount 6 = .ok (.getfield 63, 3) := by decide +kernel
theorem dX6_resourceCount_9 : decode cX6_resourceCount 9 = .ok (.ireturn, 1) := by decide +kernel
theorem dX6_arrivedCount_0 : decode cX6_arrivedCount 0 = .ok (.aload_n 0, 1) := by decide +kernel
theorem dX6_arrivedCount_1 : decode cX6_arrivedCount 1 = .ok (.iconst 0, 1) := by decide +kernel
theorem dX6_arrivedCount_2 : decode cX6_arrivedCount 2 = .ok (.putfield 60, 3) := by decide +kernel
theorem dX6_arrivedCount_5 : decode cX6_arrivedCount 5 = .ok (.aload_n 0, 1) := by decide +kernel
theorem dX6_arrivedCount_6 : decode cX6_arrivedCount 6 = .ok (.getfield 66, 3) := by decide +kernel
theorem dX6_arrivedCount_9 : decode cX6_arrivedCount 9 = .ok (.ireturn, 1) := by decide +kernel
theorem dX6_countOf_0 : decode cX6_countOf 0 = .ok (.iconst 0, 1) := by decide +kernel
theorem dX6_countOf_1 : decode cX6_countOf 1 = .ok (.istore_n 2, 1) := by decide +kernel
theorem dX6_countOf_2 : decode cX6_countOf 2 = .ok (.iconst 0, 1) := by decide +kernel
theorem dX6_countOf_3 : decode cX6_countOf 3 = .ok (.istore_n 3, 1) := by decide +kernel
theorem dX6_countOf_4 : decode cX6_countOf 4 = .ok (.iload_n 3, 1) := by decide +kernel
theorem dX6_countOf_5 : decode cX6_countOf 5 = .ok (.aload_n 0, 1) := by decide +kernel
theorem dX6_countOf_6 : decode cX6_countOf 6 = .ok (.getfield 66, 3) := by decide +kernel
theorem dX6_countOf_9 : decode cX6_countOf 9 = .ok (.if_icmp .ge 27, 3) := by decide +kernel
theorem dX6_countOf_12 : decode cX6_countOf 12 = .ok (.iload_n 2, 1) := by decide +kernel
theorem dX6_countOf_13 : decode cX6_countOf 13 = .ok (.aload_n 0, 1) := by decide +kernel
theorem dX6_countOf_14 : decode cX6_countOf 14 = .ok (.getfield 25, 3) := by decide +kernel
theorem dX6_countOf_17 : decode cX6_countOf 17 = .ok (.iload_n 3, 1) := by decide +kernel
theorem dX6_countOf_18 : decode cX6_countOf 18 = .ok (.iaload, 1) := by decide +kernel
theorem dX6_countOf_19 : decode cX6_countOf 19 = .ok (.iload_n 1, 1) := by decide +kernel
theorem dX6_countOf_20 : decode cX6_countOf 20 = .ok (.if_icmp .ne 7, 3) := by decide +kernel
theorem dX6_countOf_23 : decode cX6_countOf 23 = .ok (.iconst 1, 1) := by decide +kernel
theorem dX6_countOf_24 : decode cX6_countOf 24 = .ok (.goto 4, 3) := by decide +kernel
theorem dX6_countOf_27 : decode cX6_countOf 27 = .ok (.iconst 0, 1) := by decide +kernel
theorem dX6_countOf_28 : decode cX6_countOf 28 = .ok (.iadd, 1) := by decide +kernel
theorem dX6_countOf_29 : decode cX6_countOf 29 = .ok (.istore_n 2, 1) := by decide +kernel
theorem dX6_countOf_30 : decode cX6_countOf 30 = .ok (.iinc 3 1, 3) := by decide +kernel
theorem dX6_countOf_33 : decode cX6_countOf 33 = .ok (.goto (-29), 3) := by decide +kernel
theorem dX6_countOf_36 : decode cX6_countOf 36 = .ok (.iload_n 2, 1) := by decide +kernel
theorem dX6_countOf_37 : decode cX6_countOf 37 = .ok (.ireturn, 1) := by decide +kernel
theorem dX6_assignedCount_0 : decode cX6_assignedCount 0 = .ok (.aload_n 0, 1) := by decide +kernel
theorem dX6_assignedCount_1 : decode cX6_assignedCount 1 = .ok (.iconst 0, 1) := by decide +kernel
theorem dX6_assignedCount_2 : decode cX6_assignedCount 2 = .ok (.putfield 60, 3) := by decide +kernel
theorem dX6_assignedCount_5 : decode cX6_assignedCount 5 = .ok (.aload_n 0, 1) := by decide +kernel
theorem dX6_assignedCount_6 : decode cX6_assignedCount 6 = .ok (.iconst 1, 1) := by decide +kernel
theorem dX6_assignedCount_7 : decode cX6_assignedCount 7 = .ok (.invokevirtual 134, 3) := by decide +kernel
theorem dX6_assignedCount_10 : decode cX6_assignedCount 10 = .ok (.ireturn, 1) := by decide +kernel
theorem dX6_waitingCount_0 : decode cX6_waitingCount 0 = .ok (.aload_n 0, 1) := by decide +kernel
theorem dX6_waitingCount_1 : decode cX6_waitingCount 1 = .ok (.iconst 0, 1) := by decide +kernel
theorem dX6_waitingCount_2 : decode cX6_waitingCount 2 = .ok (.putfield 60, 3) := by decide +kernel
theorem dX6_waitingCount_5 : decode cX6_waitingCount 5 = .ok (.aload_n 0, 1) := by decide +kernel
theorem dX6_waitingCount_6 : decode cX6_waitingCount 6 = .ok (.iconst 0, 1) := by decide +kernel
theorem dX6_waitingCount_7 : decode cX6_waitingCount 7 = .ok (.invokevirtual 134, 3) := by decide +kernel
theorem dX6_waitingCount_10 : decode cX6_waitingCount 10 = .ok (.ireturn, 1) := by decide +kernel
theorem dX6_assignedOf_0 : decode cX6_assignedOf 0 = .ok (.aload_n 0, 1) := by decide +kernel
theorem dX6_assignedOf_1 : decode cX6_assignedOf 1 = .ok (.iconst 0, 1) := by decide +kernel
theorem dX6_assignedOf_2 : decode cX6_assignedOf 2 = .ok (.putfield 60, 3) := by decide +kernel
theorem dX6_assignedOf_5 : decode cX6_assignedOf 5 = .ok (.iload_n 1, 1) := by decide +kernel
theorem dX6_assignedOf_6 : decode cX6_assignedOf 6 = .ok (.invokestatic 125, 3) := by decide +kernel
theorem dX6_assignedOf_9 : decode cX6_assignedOf 9 = .ok (.ifCond .eq 11, 3) := by decide +kernel
theorem dX6_assignedOf_12 : decode cX6_assignedOf 12 = .ok (.aload_n 0, 1) := by decide +kernel
theorem dX6_assignedOf_13 : decode cX6_assignedOf 13 = .ok (.iload_n 1, 1) := by decide +kernel
theorem dX6_assignedOf_14 : decode cX6_assignedOf 14 = .ok (.invokevirtual 89, 3) := by decide +kernel
theorem dX6_assignedOf_17 : decode cX6_assignedOf 17 = .ok (.goto 8, 3) := by decide +kernel
theorem dX6_assignedOf_20 : decode cX6_assignedOf 20 = .ok (.aload_n 0, 1) := by decide +kernel
theorem dX6_assignedOf_21 : decode cX6_assignedOf 21 = .ok (.iconst 1, 1) := by decide +kernel
theorem dX6_assignedOf_22 : decode cX6_assignedOf 22 = .ok (.invokevirtual 116, 3) := by decide +kernel
theorem dX6_assignedOf_25 : decode cX6_assignedOf 25 = .ok (.ireturn, 1) := by decide +kernel
theorem dX6_load_0 : decode cX6_load 0 = .ok (.aload_n 0, 1) := by decide +kernel
theorem dX6_load_1 : decode cX6_load 1 = .ok (.iconst 0, 1) := by decide +kernel
theorem dX6_load_2 : decode cX6_load 2 = .ok (.putfield 60, 3) := by decide +kernel
theorem dX6_load_5 : decode cX6_load 5 = .ok (.aload_n 0, 1) := by decide +kernel
theorem dX6_load_6 : decode cX6_load 6 = .ok (.iload_n 1, 1) := by decide +kernel
theorem dX6_load_7 : decode cX6_load 7 = .ok (.invokevirtual 122, 3) := by decide +kernel
theorem dX6_load_10 : decode cX6_load 10 = .ok (.ifCond .eq 11, 3) := by decide +kernel
theorem dX6_load_13 : decode cX6_load 13 = .ok (.aload_n 0, 1) := by decide +kernel
theorem dX6_load_14 : decode cX6_load 14 = .ok (.iload_n 1, 1) := by decide +kernel
theorem dX6_load_15 : decode cX6_load 15 = .ok (.invokevirtual 73, 3) := by decide +kernel
theorem dX6_load_18 : decode cX6_load 18 = .ok (.goto 8, 3) := by decide +kernel
theorem dX6_load_21 : decode cX6_load 21 = .ok (.aload_n 0, 1) := by decide +kernel
theorem dX6_load_22 : decode cX6_load 22 = .ok (.iconst 1, 1) := by decide +kernel
theorem dX6_load_23 : decode cX6_load 23 = .ok (.invokevirtual 116, 3) := by decide +kernel
theorem dX6_load_26 : decode cX6_load 26 = .ok (.ireturn, 1) := by decide +kernel
theorem dX6_state_0 : decode cX6_state 0 = .ok (.aload_n 0, 1) := by decide +kernel
theorem dX6_state_1 : decode cX6_state 1 = .ok (.iconst 0, 1) := by decide +kernel
theorem dX6_state_2 : decode cX6_state 2 = .ok (.putfield 60, 3) := by decide +kernel
theorem dX6_state_5 : decode cX6_state 5 = .ok (.aload_n 0, 1) := by decide +kernel
theorem dX6_state_6 : decode cX6_state 6 = .ok (.iload_n 1, 1) := by decide +kernel
theorem dX6_state_7 : decode cX6_state 7 = .ok (.invokevirtual 131, 3) := by decide +kernel
theorem dX6_state_10 : decode cX6_state 10 = .ok (.ifCond .eq 12, 3) := by decide +kernel
theorem dX6_state_13 : decode cX6_state 13 = .ok (.aload_n 0, 1) := by decide +kernel
theorem dX6_state_14 : decode cX6_state 14 = .ok (.getfield 25, 3) := by decide +kernel
theorem dX6_state_17 : decode cX6_state 17 = .ok (.iload_n 1, 1) := by decide +kernel
theorem dX6_state_18 : decode cX6_state 18 = .ok (.iaload, 1) := by decide +kernel
theorem dX6_state_19 : decode cX6_state 19 = .ok (.goto 8, 3) := by decide +kernel
theorem dX6_state_22 : decode cX6_state 22 = .ok (.aload_n 0, 1) := by decide +kernel
theorem dX6_state_23 : decode cX6_state 23 = .ok (.iconst 1, 1) := by decide +kernel
theorem dX6_state_24 : decode cX6_state 24 = .ok (.invokevirtual 116, 3) := by decide +kernel
theorem dX6_state_27 : decode cX6_state 27 = .ok (.ireturn, 1) := by decide +kernel
theorem dX6_resourceOf_0 : decode cX6_resourceOf 0 = .ok (.aload_n 0, 1) := by decide +kernel
theorem dX6_resourceOf_1 : decode cX6_resourceOf 1 = .ok (.iconst 0, 1) := by decide +kernel
theorem dX6_resourceOf_2 : decode cX6_resourceOf 2 = .ok (.putfield 60, 3) := by decide +kernel
theorem dX6_resourceOf_5 : decode cX6_resourceOf 5 = .ok (.aload_n 0, 1) := by decide +kernel
theorem dX6_resourceOf_6 : decode cX6_resourceOf 6 = .ok (.iload_n 1, 1) := by decide +kernel
theorem dX6_resourceOf_7 : decode cX6_resourceOf 7 = .ok (.invokevirtual 131, 3) := by decide +kernel
theorem dX6_resourceOf_10 : decode cX6_resourceOf 10 = .ok (.ifCond .ne 9, 3) := by decide +kernel
theorem dX6_resourceOf_13 : decode cX6_resourceOf 13 = .ok (.aload_n 0, 1) := by decide +kernel
theorem dX6_resourceOf_14 : decode cX6_resourceOf 14 = .ok (.iconst 1, 1) := by decide +kernel
theorem dX6_resourceOf_15 : decode cX6_resourceOf 15 = .ok (.invokevirtual 116, 3) := by decide +kernel
