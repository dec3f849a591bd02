theorem dX4_init_0 : decode cX4_init 0 = .ok (.aload_n 0, 1) := by decide +kernel
theorem dX4_init_1 : decode cX4_init 1 = .ok (.invokespecial 3, 3) := by decide +kernel
theorem dX4_init_4 : decode cX4_init 4 = .ok (.aload_n 0, 1) := by decide +kernel
theorem dX4_init_5 : decode cX4_init 5 = .ok (.bipush 12, 2) := by decide +kernel
theorem dX4_init_7 : decode cX4_init 7 = .ok (.newarray .int, 2) := by decide +kernel
theorem dX4_init_9 : decode cX4_init 9 = .ok (.putfield 9, 3) := by decide +kernel
theorem dX4_init_12 : decode cX4_init 12 = .ok (.aload_n 0, 1) := by decide +kernel
theorem dX4_init_13 : decode cX4_init 13 = .ok (.bipush 12, 2) := by decide +kernel
theorem dX4_init_15 : decode cX4_init 15 = .ok (.newarray .int, 2) := by decide +kernel
theorem dX4_init_17 : decode cX4_init 17 = .ok (.putfield 15, 3) := by decide +kernel
theorem dX4_init_20 : decode cX4_init 20 = .ok (.aload_n 0, 1) := by decide +kernel
theorem dX4_init_21 : decode cX4_init 21 = .ok (.iconst 4, 1) := by decide +kernel
theorem dX4_init_22 : decode cX4_init 22 = .ok (.newarray .int, 2) := by decide +kernel
theorem dX4_init_24 : decode cX4_init 24 = .ok (.putfield 18, 3) := by decide +kernel
theorem dX4_init_27 : decode cX4_init 27 = .ok (.aload_n 0, 1) := by decide +kernel
theorem dX4_init_28 : decode cX4_init 28 = .ok (.iconst 4, 1) := by decide +kernel
theorem dX4_init_29 : decode cX4_init 29 = .ok (.newarray .int, 2) := by decide +kernel
theorem dX4_init_31 : decode cX4_init 31 = .ok (.putfield 21, 3) := by decide +kernel
theorem dX4_init_34 : decode cX4_init 34 = .ok (.aload_n 0, 1) := by decide +kernel
theorem dX4_init_35 : decode cX4_init 35 = .ok (.iconst 4, 1) := by decide +kernel
theorem dX4_init_36 : decode cX4_init 36 = .ok (.newarray .int, 2) := by decide +kernel
theorem dX4_init_38 : decode cX4_init 38 = .ok (.putfield 24, 3) := by decide +kernel
theorem dX4_init_41 : decode cX4_init 41 = .ok (.aload_n 0, 1) := by decide +kernel
theorem dX4_init_42 : decode cX4_init 42 = .ok (.bipush 40, 2) := by decide +kernel
theorem dX4_init_44 : decode cX4_init 44 = .ok (.newarray .int, 2) := by decide +kernel
theorem dX4_init_46 : decode cX4_init 46 = .ok (.putfield 27, 3) := by decide +kernel
theorem dX4_init_49 : decode cX4_init 49 = .ok (.aload_n 0, 1) := by decide +kernel
theorem dX4_init_50 : decode cX4_init 50 = .ok (.bipush 40, 2) := by decide +kernel
theorem dX4_init_52 : decode cX4_init 52 = .ok (.newarray .int, 2) := by decide +kernel
theorem dX4_init_54 : decode cX4_init 54 = .ok (.putfield 30, 3) := by decide +kernel
theorem dX4_init_57 : decode cX4_init 57 = .ok (.aload_n 0, 1) := by decide +kernel
theorem dX4_init_58 : decode cX4_init 58 = .ok (.bipush 40, 2) := by decide +kernel
theorem dX4_init_60 : decode cX4_init 60 = .ok (.newarray .int, 2) := by decide +kernel
theorem dX4_init_62 : decode cX4_init 62 = .ok (.putfield 33, 3) := by decide +kernel
theorem dX4_init_65 : decode cX4_init 65 = .ok (.aload_n 0, 1) := by decide +kernel
theorem dX4_init_66 : decode cX4_init 66 = .ok (.bipush 40, 2) := by decide +kernel
theorem dX4_init_68 : decode cX4_init 68 = .ok (.newarray .int, 2) := by decide +kernel
theorem dX4_init_70 : decode cX4_init 70 = .ok (.putfield 36, 3) := by decide +kernel
theorem dX4_init_73 : decode cX4_init 73 = .ok (.aload_n 0, 1) := by decide +kernel
theorem dX4_init_74 : decode cX4_init 74 = .ok (.iconst 2, 1) := by decide +kernel
theorem dX4_init_75 : decode cX4_init 75 = .ok (.putfield 39, 3) := by decide +kernel
theorem dX4_init_78 : decode cX4_init 78 = .ok (.aload_n 0, 1) := by decide +kernel
theorem dX4_init_79 : decode cX4_init 79 = .ok (.iconst 3, 1) := by decide +kernel
theorem dX4_init_80 : decode cX4_init 80 = .ok (.putfield 43, 3) := by decide +kernel
theorem dX4_init_83 : decode cX4_init 83 = .ok (.iconst 0, 1) := by decide +kernel
theorem dX4_init_84 : decode cX4_init 84 = .ok (.istore_n 1, 1) := by decide +kernel
theorem dX4_init_85 : decode cX4_init 85 = .ok (.iload_n 1, 1) := by decide +kernel
theorem dX4_init_86 : decode cX4_init 86 = .ok (.iconst 4, 1) := by decide +kernel
theorem dX4_init_87 : decode cX4_init 87 = .ok (.if_icmp .ge 24, 3) := by decide +kernel
theorem dX4_init_90 : decode cX4_init 90 = .ok (.aload_n 0, 1) := by decide +kernel
theorem dX4_init_91 : decode cX4_init 91 = .ok (.getfield 18, 3) := by decide +kernel
theorem dX4_init_94 : decode cX4_init 94 = .ok (.iload_n 1, 1) := by decide +kernel
theorem dX4_init_95 : decode cX4_init 95 = .ok (.bipush 40, 2) := by decide +kernel
theorem dX4_init_97 : decode cX4_init 97 = .ok (.iastore, 1) := by decide +kernel
theorem dX4_init_98 : decode cX4_init 98 = .ok (.aload_n 0, 1) := by decide +kernel
theorem dX4_init_99 : decode cX4_init 99 = .ok (.getfield 21, 3) := by decide +kernel
theorem dX4_init_102 : decode cX4_init 102 = .ok (.iload_n 1, 1) := by decide +kernel
theorem dX4_init_103 : decode cX4_init 103 = .ok (.iconst 1, 1) := by decide +kernel
theorem dX4_init_104 : decode cX4_init 104 = .ok (.iastore, 1) := by decide +kernel
theorem dX4_init_105 : decode cX4_init 105 = .ok (.iinc 1 1, 3) := by decide +kernel
theorem dX4_init_108 : decode cX4_init 108 = .ok (.goto (-23), 3) := by decide +kernel
theorem dX4_init_111 : decode cX4_init 111 = .ok (.return_, 1) := by decide +kernel
theorem dX4_maskOfAll_0 : decode cX4_maskOfAll 0 = .ok (.iconst 1, 1) := by decide +kernel
theorem dX4_maskOfAll_1 : decode cX4_maskOfAll 1 = .ok (.aload_n 0, 1) := by decide +kernel
theorem dX4_maskOfAll_2 : decode cX4_maskOfAll 2 = .ok (.getfield 46, 3) := by decide +kernel
theorem dX4_maskOfAll_5 : decode cX4_maskOfAll 5 = .ok (.ishl, 1) := by decide +kernel
theorem dX4_maskOfAll_6 : decode cX4_maskOfAll 6 = .ok (.iconst 1, 1) := by decide +kernel
theorem dX4_maskOfAll_7 : decode cX4_maskOfAll 7 = .ok (.isub, 1) := by decide +kernel
theorem dX4_maskOfAll_8 : decode cX4_maskOfAll 8 = .ok (.ireturn, 1) := by decide +kernel
theorem dX4_isWaiting_0 : decode cX4_isWaiting 0 = .ok (.aload_n 0, 1) := by decide +kernel
theorem dX4_isWaiting_1 : decode cX4_isWaiting 1 = .ok (.getfield 33, 3) := by decide +kernel
theorem dX4_isWaiting_4 : decode cX4_isWaiting 4 = .ok (.iload_n 1, 1) := by decide +kernel
theorem dX4_isWaiting_5 : decode cX4_isWaiting 5 = .ok (.iaload, 1) := by decide +kernel
theorem dX4_isWaiting_6 : decode cX4_isWaiting 6 = .ok (.iconst (-1), 1) := by decide +kernel
theorem dX4_isWaiting_7 : decode cX4_isWaiting 7 = .ok (.if_icmp .ne 7, 3) := by decide +kernel
theorem dX4_isWaiting_10 : decode cX4_isWaiting 10 = .ok (.iconst 1, 1) := by decide +kernel
theorem dX4_isWaiting_11 : decode cX4_isWaiting 11 = .ok (.goto 4, 3) := by decide +kernel
theorem dX4_isWaiting_14 : decode cX4_isWaiting 14 = .ok (.iconst 0, 1) := by decide +kernel
theorem dX4_isWaiting_15 : decode cX4_isWaiting 15 = .ok (.ireturn, 1) := by decide +kernel
theorem dX4_isAssigned_0 : decode cX4_isAssigned 0 = .ok (.aload_n 0, 1) := by decide +kernel
theorem dX4_isAssigned_1 : decode cX4_isAssigned 1 = .ok (.getfield 33, 3) := by decide +kernel
theorem dX4_isAssigned_4 : decode cX4_isAssigned 4 = .ok (.iload_n 1, 1) := by decide +kernel
theorem dX4_isAssigned_5 : decode cX4_isAssigned 5 = .ok (.iaload, 1) := by decide +kernel
theorem dX4_isAssigned_6 : decode cX4_isAssigned 6 = .ok (.ifCond .lt 7, 3) := by decide +kernel
theorem dX4_isAssigned_9 : decode cX4_isAssigned 9 = .ok (.iconst 1, 1) := by decide +kernel
theorem dX4_isAssigned_10 : decode cX4_isAssigned 10 = .ok (.goto 4, 3) := by decide +kernel
theorem dX4_isAssigned_13 : decode cX4_isAssigned 13 = .ok (.iconst 0, 1) := by decide +kernel
theorem dX4_isAssigned_14 : decode cX4_isAssigned 14 = .ok (.ireturn, 1) := by decide +kernel
theorem dX4_isDeparted_0 : decode cX4_isDeparted 0 = .ok (.aload_n 0, 1) := by decide +kernel
theorem dX4_isDeparted_1 : decode cX4_isDeparted 1 = .ok (.getfield 33, 3) := by decide +kernel
theorem dX4_isDeparted_4 : decode cX4_isDeparted 4 = .ok (.iload_n 1, 1) := by decide +kernel
theorem dX4_isDeparted_5 : decode cX4_isDeparted 5 = .ok (.iaload, 1) := by decide +kernel
theorem dX4_isDeparted_6 : decode cX4_isDeparted 6 = .ok (.bipush (-2), 2) := by decide +kernel
theorem dX4_isDeparted_8 : decode cX4_isDeparted 8 = .ok (.if_icmp .ne 7, 3) := by decide +kernel
theorem dX4_isDeparted_11 : decode cX4_isDeparted 11 = .ok (.iconst 1, 1) := by decide +kernel
theorem dX4_isDeparted_12 : decode cX4_isDeparted 12 = .ok (.goto 4, 3) := by decide +kernel
theorem dX4_isDeparted_15 : decode cX4_isDeparted 15 = .ok (.iconst 0, 1) := by decide +kernel
theorem dX4_isDeparted_16 : decode cX4_isDeparted 16 = .ok (.ireturn, 1) := by decide +kernel
theorem dX4_stateNumber_0 : decode cX4_stateNumber 0 = .ok (.aload_n 0, 1) := by decide +kernel
theorem dX4_stateNumber_1 : decode cX4_stateNumber 1 = .ok (.iload_n 1, 1) := by decide +kernel
theorem dX4_stateNumber_2 : decode cX4_stateNumber 2 = .ok (.invokevirtual 49, 3) := by decide +kernel
theorem dX4_stateNumber_5 : decode cX4_stateNumber 5 = .ok (.ifCond .eq 5, 3) := by decide +kernel
theorem dX4_stateNumber_8 : decode cX4_stateNumber 8 = .ok (.iconst 0, 1) := by decide +kernel
theorem dX4_stateNumber_9 : decode cX4_stateNumber 9 = .ok (.ireturn, 1) := by decide +kernel
theorem dX4_stateNumber_10 : decode cX4_stateNumber 10 = .ok (.aload_n 0, 1) := by decide +kernel
theorem dX4_stateNumber_11 : decode cX4_stateNumber 11 = .ok (.iload_n 1, 1) := by decide +kernel
theorem dX4_stateNumber_12 : decode cX4_stateNumber 12 = .ok (.invokevirtual 53, 3) := by decide +kernel
theorem dX4_stateNumber_15 : decode cX4_stateNumber 15 = .ok (.ifCond .eq 7, 3) := by decide +kernel
theorem dX4_stateNumber_18 : decode cX4_stateNumber 18 = .ok (.iconst 1, 1) := by decide +kernel
theorem dX4_stateNumber_19 : decode cX4_stateNumber 19 = .ok (.goto 4, 3) := by decide +kernel
theorem dX4_stateNumber_22 : decode cX4_stateNumber 22 = .ok (.iconst 2, 1) := by decide +kernel
theorem dX4_stateNumber_23 : decode cX4_stateNumber 23 = .ok (.ireturn, 1) := by decide +kernel
theorem dX4_canBeMoved_0 : decode cX4_canBeMoved 0 = .ok (.aload_n 0, 1) := by decide +kernel
theorem dX4_canBeMoved_1 : decode cX4_canBeMoved 1 = .ok (.getfield 33, 3) := by decide +kernel
theorem dX4_canBeMoved_4 : decode cX4_canBeMoved 4 = .ok (.iload_n 1, 1) := by decide +kernel
theorem dX4_canBeMoved_5 : decode cX4_canBeMoved 5 = .ok (.iaload, 1) := by decide +kernel
theorem dX4_canBeMoved_6 : decode cX4_canBeMoved 6 = .ok (.ifCond .lt 20, 3) := by decide +kernel
theorem dX4_canBeMoved_9 : decode cX4_canBeMoved 9 = .ok (.aload_n 0, 1) := by decide +kernel
theorem dX4_canBeMoved_10 : decode cX4_canBeMoved 10 = .ok (.getfield 36, 3) := by decide +kernel
theorem dX4_canBeMoved_13 : decode cX4_canBeMoved 13 = .ok (.iload_n 1, 1) := by decide +kernel
theorem dX4_canBeMoved_14 : decode cX4_canBeMoved 14 = .ok (.iaload, 1) := by decide +kernel
theorem dX4_canBeMoved_15 : decode cX4_canBeMoved 15 = .ok (.aload_n 0, 1) := by decide +kernel
theorem dX4_canBeMoved_16 : decode cX4_canBeMoved 16 = .ok (.getfield 43, 3) := by decide +kernel
theorem dX4_canBeMoved_19 : decode cX4_canBeMoved 19 = .ok (.if_icmp .ge 7, 3) := by decide +kernel
theorem dX4_canBeMoved_22 : decode cX4_canBeMoved 22 = .ok (.iconst 1, 1) := by decide +kernel
theorem dX4_canBeMoved_23 : decode cX4_canBeMoved 23 = .ok (.goto 4, 3) := by decide +kernel
theorem dX4_canBeMoved_26 : decode cX4_canBeMoved 26 = .ok (.iconst 0, 1) := by decide +kernel
theorem dX4_canBeMoved_27 : decode cX4_canBeMoved 27 = .ok (.ireturn, 1) := by decide +kernel
theorem dX4_resourceHasRoom_0 : decode cX4_resourceHasRoom 0 = .ok (.aload_n 0, 1) := by decide +kernel
theorem dX4_resourceHasRoom_1 : decode cX4_resourceHasRoom 1 = .ok (.getfield 15, 3) := by decide +kernel
theorem dX4_resourceHasRoom_4 : decode cX4_resourceHasRoom 4 = .ok (.iload_n 1, 1) := by decide +kernel
theorem dX4_resourceHasRoom_5 : decode cX4_resourceHasRoom 5 = .ok (.iaload, 1) := by decide +kernel
theorem dX4_resourceHasRoom_6 : decode cX4_resourceHasRoom 6 = .ok (.aload_n 0, 1) := by decide +kernel
theorem dX4_resourceHasRoom_7 : decode cX4_resourceHasRoom 7 = .ok (.getfield 9, 3) := by decide +kernel
theorem dX4_resourceHasRoom_10 : decode cX4_resourceHasRoom 10 = .ok (.iload_n 1, 1) := by decide +kernel
theorem dX4_resourceHasRoom_11 : decode cX4_resourceHasRoom 11 = .ok (.iaload, 1) := by decide +kernel
theorem dX4_resourceHasRoom_12 : decode cX4_resourceHasRoom 12 = .ok (.if_icmp .ge 7, 3) := by decide +kernel
theorem dX4_resourceHasRoom_15 : decode cX4_resourceHasRoom 15 = .ok (.iconst 1, 1) := by decide +kernel
theorem dX4_resourceHasRoom_16 : decode cX4_resourceHasRoom 16 = .ok (.goto 4, 3) := by decide +kernel
theorem dX4_resourceHasRoom_19 : decode cX4_resourceHasRoom 19 = .ok (.iconst 0, 1) := by decide +kernel
theorem dX4_resourceHasRoom_20 : decode cX4_resourceHasRoom 20 = .ok (.ireturn, 1) := by decide +kernel
theorem dX4_groupHasRoom_0 : decode cX4_groupHasRoom 0 = .ok (.aload_n 0, 1) := by decide +kernel
theorem dX4_groupHasRoom_1 : decode cX4_groupHasRoom 1 = .ok (.getfield 24, 3) := by decide +kernel
theorem dX4_groupHasRoom_4 : decode cX4_groupHasRoom 4 = .ok (.iload_n 1, 1) := by decide +kernel
theorem dX4_groupHasRoom_5 : decode cX4_groupHasRoom 5 = .ok (.iaload, 1) := by decide +kernel
theorem dX4_groupHasRoom_6 : decode cX4_groupHasRoom 6 = .ok (.aload_n 0, 1) := by decide +kernel
theorem dX4_groupHasRoom_7 : decode cX4_groupHasRoom 7 = .ok (.getfield 18, 3) := by decide +kernel
theorem dX4_groupHasRoom_10 : decode cX4_groupHasRoom 10 = .ok (.iload_n 1, 1) := by decide +kernel
theorem dX4_groupHasRoom_11 : decode cX4_groupHasRoom 11 = .ok (.iaload, 1) := by decide +kernel
theorem dX4_groupHasRoom_12 : decode cX4_groupHasRoom 12 = .ok (.if_icmp .ge 7, 3) := by decide +kernel
theorem dX4_groupHasRoom_15 : decode cX4_groupHasRoom 15 = .ok (.iconst 1, 1) := by decide +kernel
theorem dX4_groupHasRoom_16 : decode cX4_groupHasRoom 16 = .ok (.goto 4, 3) := by decide +kernel
theorem dX4_groupHasRoom_19 : decode cX4_groupHasRoom 19 = .ok (.iconst 0, 1) := by decide +kernel
theorem dX4_groupHasRoom_20 : decode cX4_groupHasRoom 20 = .ok (.ireturn, 1) := by decide +kernel
theorem dX4_openResource_0 : decode cX4_openResource 0 = .ok (.aload_n 0, 1) := by decide +kernel
theorem dX4_openResource_1 : decode cX4_openResource 1 = .ok (.getfield 46, 3) := by decide +kernel
theorem dX4_openResource_4 : decode cX4_openResource 4 = .ok (.istore_n 2, 1) := by decide +kernel
theorem dX4_openResource_5 : decode cX4_openResource 5 = .ok (.aload_n 0, 1) := by decide +kernel
theorem dX4_openResource_6 : decode cX4_openResource 6 = .ok (.getfield 9, 3) := by decide +kernel
theorem dX4_openResource_9 : decode cX4_openResource 9 = .ok (.iload_n 2, 1) := by decide +kernel
theorem dX4_openResource_10 : decode cX4_openResource 10 = .ok (.iload_n 1, 1) := by decide +kernel
theorem dX4_openResource_11 : decode cX4_openResource 11 = .ok (.iastore, 1) := by decide +kernel
theorem dX4_openResource_12 : decode cX4_openResource 12 = .ok (.aload_n 0, 1) := by decide +kernel
theorem dX4_openResource_13 : decode cX4_openResource 13 = .ok (.dup, 1) := by decide +kernel
theorem dX4_openResource_14 : decode cX4_openResource 14 = .ok (.getfield 46, 3) := by decide +kernel
theorem dX4_openResource_17 : decode cX4_openResource 17 = .ok (.iconst 1, 1) := by decide +kernel
theorem dX4_openResource_18 : decode cX4_openResource 18 = .ok (.iadd, 1) := by decide +kernel
theorem dX4_openResource_19 : decode cX4_openResource 19 = .ok (.putfield 46, 3) := by decide +kernel
theorem dX4_openResource_22 : decode cX4_openResource 22 = .ok (.iload_n 2, 1) := by decide +kernel
theorem dX4_openResource_23 : decode cX4_openResource 23 = .ok (.ireturn, 1) := by decide +kernel
theorem dX4_admit_0 : decode cX4_admit 0 = .ok (.aload_n 0, 1) := by decide +kernel
theorem dX4_admit_1 : decode cX4_admit 1 = .ok (.getfield 56, 3) := by decide +kernel
theorem dX4_admit_4 : decode cX4_admit 4 = .ok (.istore_n 3, 1) := by decide +kernel
theorem dX4_admit_5 : decode cX4_admit 5 = .ok (.aload_n 0, 1) := by decide +kernel
theorem dX4_admit_6 : decode cX4_admit 6 = .ok (.getfield 27, 3) := by decide +kernel
theorem dX4_admit_9 : decode cX4_admit 9 = .ok (.iload_n 3, 1) := by decide +kernel
theorem dX4_admit_10 : decode cX4_admit 10 = .ok (.iload_n 1, 1) := by decide +kernel
theorem dX4_admit_11 : decode cX4_admit 11 = .ok (.iastore, 1) := by decide +kernel
theorem dX4_admit_12 : decode cX4_admit 12 = .ok (.aload_n 0, 1) := by decide +kernel
theorem dX4_admit_13 : decode cX4_admit 13 = .ok (.getfield 30, 3) := by decide +kernel
theorem dX4_admit_16 : decode cX4_admit 16 = .ok (.iload_n 3, 1) := by decide +kernel
theorem dX4_admit_17 : decode cX4_admit 17 = .ok (.iload_n 2, 1) := by decide +kernel
theorem dX4_admit_18 : decode cX4_admit 18 = .ok (.iastore, 1) := by decide +kernel
theorem dX4_admit_19 : decode cX4_admit 19 = .ok (.aload_n 0, 1) := by decide +kernel
theorem dX4_admit_20 : decode cX4_admit 20 = .ok (.getfield 33, 3) := by decide +kernel
theorem dX4_admit_23 : decode cX4_admit 23 = .ok (.iload_n 3, 1) := by decide +kernel
theorem dX4_admit_24 : decode cX4_admit 24 = .ok (.iconst (-1), 1) := by decide +kernel
theorem dX4_admit_25 : decode cX4_admit 25 = .ok (.iastore, 1) := by decide +kernel
theorem dX4_admit_26 : decode cX4_admit 26 = .ok (.aload_n 0, 1) := by decide +kernel
theorem dX4_admit_27 : decode cX4_admit 27 = .ok (.dup, 1) := by decide +kernel
theorem dX4_admit_28 : decode cX4_admit 28 = .ok (.getfield 56, 3) := by decide +kernel
theorem dX4_admit_31 : decode cX4_admit 31 = .ok (.iconst 1, 1) := by decide +kernel
theorem dX4_admit_32 : decode cX4_admit 32 = .ok (.iadd, 1) := by decide +kernel
theorem dX4_admit_33 : decode cX4_admit 33 = .ok (.putfield 56, 3) := by decide +kernel
theorem dX4_admit_36 : decode cX4_admit 36 = .ok (.iload_n 3, 1) := by decide +kernel
theorem dX4_admit_37 : decode cX4_admit 37 = .ok (.ireturn, 1) := by decide +kernel
theorem dX4_dismiss_0 : decode cX4_dismiss 0 = .ok (.aload_n 0, 1) := by decide +kernel
theorem dX4_dismiss_1 : decode cX4_dismiss 1 = .ok (.iload_n 1, 1) := by decide +kernel
theorem dX4_dismiss_2 : decode cX4_dismiss 2 = .ok (.invokevirtual 59, 3) := by decide +kernel
theorem dX4_dismiss_5 : decode cX4_dismiss 5 = .ok (.aload_n 0, 1) := by decide +kernel
theorem dX4_dismiss_6 : decode cX4_dismiss 6 = .ok (.getfield 33, 3) := by decide +kernel
theorem dX4_dismiss_9 : decode cX4_dismiss 9 = .ok (.iload_n 1, 1) := by decide +kernel
theorem dX4_dismiss_10 : decode cX4_dismiss 10 = .ok (.bipush (-2), 2) := by decide +kernel
theorem dX4_dismiss_12 : decode cX4_dismiss 12 = .ok (.iastore, 1) := by decide +kernel
theorem dX4_dismiss_13 : decode cX4_dismiss 13 = .ok (.return_, 1) := by decide +kernel
theorem dX4_accept_0 : decode cX4_accept 0 = .ok (.aload_n 0, 1) := by decide +kernel
theorem dX4_accept_1 : decode cX4_accept 1 = .ok (.getfield 30, 3) := by decide +kernel
theorem dX4_accept_4 : decode cX4_accept 4 = .ok (.iload_n 1, 1) := by decide +kernel
theorem dX4_accept_5 : decode cX4_accept 5 = .ok (.iload_n 2, 1) := by decide +kernel
theorem dX4_accept_6 : decode cX4_accept 6 = .ok (.iastore, 1) := by decide +kernel
theorem dX4_accept_7 : decode cX4_accept 7 = .ok (.aload_n 0, 1) := by decide +kernel
theorem dX4_accept_8 : decode cX4_accept 8 = .ok (.iload_n 1, 1) := by decide +kernel
theorem dX4_accept_9 : decode cX4_accept 9 = .ok (.invokevirtual 53, 3) := by decide +kernel
theorem dX4_accept_12 : decode cX4_accept 12 = .ok (.ifCond .eq 21, 3) := by decide +kernel
theorem dX4_accept_15 : decode cX4_accept 15 = .ok (.iload_n 2, 1) := by decide +kernel
theorem dX4_accept_16 : decode cX4_accept 16 = .ok (.aload_n 0, 1) := by decide +kernel
theorem dX4_accept_17 : decode cX4_accept 17 = .ok (.getfield 33, 3) := by decide +kernel
theorem dX4_accept_20 : decode cX4_accept 20 = .ok (.iload_n 1, 1) := by decide +kernel
theorem dX4_accept_21 : decode cX4_accept 21 = .ok (.iaload, 1) := by decide +kernel
theorem dX4_accept_22 : decode cX4_accept 22 = .ok (.invokestatic 63, 3) := by decide +kernel
theorem dX4_accept_25 : decode cX4_accept 25 = .ok (.ifCond .ne 8, 3) := by decide +kernel
theorem dX4_accept_28 : decode cX4_accept 28 = .ok (.aload_n 0, 1) := by decide +kernel
theorem dX4_accept_29 : decode cX4_accept 29 = .ok (.iload_n 1, 1) := by decide +kernel
theorem dX4_accept_30 : decode cX4_accept 30 = .ok (.invokevirtual 59, 3) := by decide +kernel
theorem dX4_accept_33 : decode cX4_accept 33 = .ok (.return_, 1) := by decide +kernel
theorem dX4_assign_0 : decode cX4_assign 0 = .ok (.aload_n 0, 1) := by decide +kernel
theorem dX4_assign_1 : decode cX4_assign 1 = .ok (.getfield 33, 3) := by decide +kernel
theorem dX4_assign_4 : decode cX4_assign 4 = .ok (.iload_n 1, 1) := by decide +kernel
theorem dX4_assign_5 : decode cX4_assign 5 = .ok (.iload_n 2, 1) := by decide +kernel
theorem dX4_assign_6 : decode cX4_assign 6 = .ok (.iastore, 1) := by decide +kernel
theorem dX4_assign_7 : decode cX4_assign 7 = .ok (.aload_n 0, 1) := by decide +kernel
theorem dX4_assign_8 : decode cX4_assign 8 = .ok (.getfield 15, 3) := by decide +kernel
theorem dX4_assign_11 : decode cX4_assign 11 = .ok (.iload_n 2, 1) := by decide +kernel
theorem dX4_assign_12 : decode cX4_assign 12 = .ok (.dup2, 1) := by decide +kernel
theorem dX4_assign_13 : decode cX4_assign 13 = .ok (.iaload, 1) := by decide +kernel
theorem dX4_assign_14 : decode cX4_assign 14 = .ok (.iconst 1, 1) := by decide +kernel
theorem dX4_assign_15 : decode cX4_assign 15 = .ok (.iadd, 1) := by decide +kernel
theorem dX4_assign_16 : decode cX4_assign 16 = .ok (.iastore, 1) := by decide +kernel
theorem dX4_assign_17 : decode cX4_assign 17 = .ok (.aload_n 0, 1) := by decide +kernel
theorem dX4_assign_18 : decode cX4_assign 18 = .ok (.getfield 24, 3) := by decide +kernel
theorem dX4_assign_21 : decode cX4_assign 21 = .ok (.aload_n 0, 1) := by decide +kernel
theorem dX4_assign_22 : decode cX4_assign 22 = .ok (.getfield 27, 3) := by decide +kernel
theorem dX4_assign_25 : decode cX4_assign 25 = .ok (.iload_n 1, 1) := by decide +kernel
theorem dX4_assign_26 : decode cX4_assign 26 = .ok (.iaload, 1) := by decide +kernel
theorem dX4_assign_27 : decode cX4_assign 27 = .ok (.dup2, 1) := by decide +kernel
theorem dX4_assign_28 : decode cX4_assign 28 = .ok (.iaload, 1) := by decide +kernel
theorem dX4_assign_29 : decode cX4_assign 29 = .ok (.iconst 1, 1) := by decide +kernel
theorem dX4_assign_30 : decode cX4_assign 30 = .ok (.iadd, 1) := by decide +kernel
theorem dX4_assign_31 : decode cX4_assign 31 = .ok (.iastore, 1) := by decide +kernel
theorem dX4_assign_32 : decode cX4_assign 32 = .ok (.return_, 1) := by decide +kernel
theorem dX4_move_0 : decode cX4_move 0 = .ok (.aload_n 0, 1) := by decide +kernel
theorem dX4_move_1 : decode cX4_move 1 = .ok (.iload_n 1, 1) := by decide +kernel
theorem dX4_move_2 : decode cX4_move 2 = .ok (.invokevirtual 59, 3) := by decide +kernel
theorem dX4_move_5 : decode cX4_move 5 = .ok (.aload_n 0, 1) := by decide +kernel
theorem dX4_move_6 : decode cX4_move 6 = .ok (.iload_n 1, 1) := by decide +kernel
theorem dX4_move_7 : decode cX4_move 7 = .ok (.iload_n 2, 1) := by decide +kernel
theorem dX4_move_8 : decode cX4_move 8 = .ok (.invokevirtual 67, 3) := by decide +kernel
theorem dX4_move_11 : decode cX4_move 11 = .ok (.aload_n 0, 1) := by decide +kernel
theorem dX4_move_12 : decode cX4_move 12 = .ok (.getfield 36, 3) := by decide +kernel
theorem dX4_move_15 : decode cX4_move 15 = .ok (.iload_n 1, 1) := by decide +kernel
theorem dX4_move_16 : decode cX4_move 16 = .ok (.dup2, 1) := by decide +kernel
theorem dX4_move_17 : decode cX4_move 17 = .ok (.iaload, 1) := by decide +kernel
theorem dX4_move_18 : decode cX4_move 18 = .ok (.iconst 1, 1) := by decide +kernel
theorem dX4_move_19 : decode cX4_move 19 = .ok (.iadd, 1) := by decide +kernel
theorem dX4_move_20 : decode cX4_move 20 = .ok (.iastore, 1) := by decide +kernel
theorem dX4_move_21 : decode cX4_move 21 = .ok (.return_, 1) := by decide +kernel
theorem dX4_putBack_0 : decode cX4_putBack 0 = .ok (.aload_n 0, 1) := by decide +kernel
theorem dX4_putBack_1 : decode cX4_putBack 1 = .ok (.iload_n 1, 1) := by decide +kernel
theorem dX4_putBack_2 : decode cX4_putBack 2 = .ok (.invokevirtual 53, 3) := by decide +kernel
theorem dX4_putBack_5 : decode cX4_putBack 5 = .ok (.ifCond .eq 40, 3) := by decide +kernel
theorem dX4_putBack_8 : decode cX4_putBack 8 = .ok (.aload_n 0, 1) := by decide +kernel
theorem dX4_putBack_9 : decode cX4_putBack 9 = .ok (.getfield 15, 3) := by decide +kernel
theorem dX4_putBack_12 : decode cX4_putBack 12 = .ok (.aload_n 0, 1) := by decide +kernel
theorem dX4_putBack_13 : decode cX4_putBack 13 = .ok (.getfield 33, 3) := by decide +kernel
theorem dX4_putBack_16 : decode cX4_putBack 16 = .ok (.iload_n 1, 1) := by decide +kernel
theorem dX4_putBack_17 : decode cX4_putBack 17 = .ok (.iaload, 1) := by decide +kernel
theorem dX4_putBack_18 : decode cX4_putBack 18 = .ok (.dup2, 1) := by decide +kernel
theorem dX4_putBack_19 : decode cX4_putBack 19 = .ok (.iaload, 1) := by decide +kernel
theorem dX4_putBack_20 : decode cX4_putBack 20 = .ok (.iconst 1, 1) := by decide +kernel
theorem dX4_putBack_21 : decode cX4_putBack 21 = .ok (.isub, 1) := by decide +kernel
theorem dX4_putBack_22 : decode cX4_putBack 22 = .ok (.iastore, 1) := by decide +kernel
theorem dX4_putBack_23 : decode cX4_putBack 23 = .ok (.aload_n 0, 1) := by decide +kernel
theorem dX4_putBack_24 : decode cX4_putBack 24 = .ok (.getfield 24, 3) := by decide +kernel
theorem dX4_putBack_27 : decode cX4_putBack 27 = .ok (.aload_n 0, 1) := by decide +kernel
theorem dX4_putBack_28 : decode cX4_putBack 28 = .ok (.getfield 27, 3) := by decide +kernel
theorem dX4_putBack_31 : decode cX4_putBack 31 = .ok (.iload_n 1, 1) := by decide +kernel
theorem dX4_putBack_32 : decode cX4_putBack 32 = .ok (.iaload, 1) := by decide +kernel
theorem dX4_putBack_33 : decode cX4_putBack 33 = .ok (.dup2, 1) := by decide +kernel
theorem dX4_putBack_34 : decode cX4_putBack 34 = .ok (.iaload, 1) := by decide +kernel
theorem dX4_putBack_35 : decode cX4_putBack 35 = .ok (.iconst 1, 1) := by decide +kernel
theorem dX4_putBack_36 : decode cX4_putBack 36 = .ok (.isub, 1) := by decide +kernel
theorem dX4_putBack_37 : decode cX4_putBack 37 = .ok (.iastore, 1) := by decide +kernel
theorem dX4_putBack_38 : decode cX4_putBack 38 = .ok (.aload_n 0, 1) := by decide +kernel
theorem dX4_putBack_39 : decode cX4_putBack 39 = .ok (.getfield 33, 3) := by decide +kernel
theorem dX4_putBack_42 : decode cX4_putBack 42 = .ok (.iload_n 1, 1) := by decide +kernel
theorem dX4_putBack_43 : decode cX4_putBack 43 = .ok (.iconst (-1), 1) := by decide +kernel
theorem dX4_putBack_44 : decode cX4_putBack 44 = .ok (.iastore, 1) := by decide +kernel
theorem dX4_putBack_45 : decode cX4_putBack 45 = .ok (.return_, 1) := by decide +kernel
theorem dX4_putBackBeyondQuota_0 : decode cX4_putBackBeyondQuota 0 = .ok (.iconst 0, 1) := by decide +kernel
theorem dX4_putBackBeyondQuota_1 : decode cX4_putBackBeyondQuota 1 = .ok (.istore_n 2, 1) := by decide +kernel
theorem dX4_putBackBeyondQuota_2 : decode cX4_putBackBeyondQuota 2 = .ok (.aload_n 0, 1) := by decide +kernel
theorem dX4_putBackBeyondQuota_3 : decode cX4_putBackBeyondQuota 3 = .ok (.getfield 56, 3) := by decide +kernel
theorem dX4_putBackBeyondQuota_6 : decode cX4_putBackBeyondQuota 6 = .ok (.iconst 1, 1) := by decide +kernel
theorem dX4_putBackBeyondQuota_7 : decode cX4_putBackBeyondQuota 7 = .ok (.isub, 1) := by decide +kernel
theorem dX4_putBackBeyondQuota_8 : decode cX4_putBackBeyondQuota 8 = .ok (.istore_n 3, 1) := by decide +kernel
theorem dX4_putBackBeyondQuota_9 : decode cX4_putBackBeyondQuota 9 = .ok (.iload_n 3, 1) := by decide +kernel
theorem dX4_putBackBeyondQuota_10 : decode cX4_putBackBeyondQuota 10 = .ok (.ifCond .lt 50, 3) := by decide +kernel
theorem dX4_putBackBeyondQuota_13 : decode cX4_putBackBeyondQuota 13 = .ok (.aload_n 0, 1) := by decide +kernel
theorem dX4_putBackBeyondQuota_14 : decode cX4_putBackBeyondQuota 14 = .ok (.getfield 24, 3) := by decide +kernel
theorem dX4_putBackBeyondQuota_17 : decode cX4_putBackBeyondQuota 17 = .ok (.iload_n 1, 1) := by decide +kernel
theorem dX4_putBackBeyondQuota_18 : decode cX4_putBackBeyondQuota 18 = .ok (.iaload, 1) := by decide +kernel
theorem dX4_putBackBeyondQuota_19 : decode cX4_putBackBeyondQuota 19 = .ok (.aload_n 0, 1) := by decide +kernel
theorem dX4_putBackBeyondQuota_20 : decode cX4_putBackBeyondQuota 20 = .ok (.getfield 18, 3) := by decide +kernel
theorem dX4_putBackBeyondQuota_23 : decode cX4_putBackBeyondQuota 23 = .ok (.iload_n 1, 1) := by decide +kernel
theorem dX4_putBackBeyondQuota_24 : decode cX4_putBackBeyondQuota 24 = .ok (.iaload, 1) := by decide +kernel
theorem dX4_putBackBeyondQuota_25 : decode cX4_putBackBeyondQuota 25 = .ok (.if_icmp .le 35, 3) := by decide +kernel
theorem dX4_putBackBeyondQuota_28 : decode cX4_putBackBeyondQuota 28 = .ok (.aload_n 0, 1) := by decide +kernel
theorem dX4_putBackBeyondQuota_29 : decode cX4_putBackBeyondQuota 29 = .ok (.getfield 27, 3) := by decide +kernel
theorem dX4_putBackBeyondQuota_32 : decode cX4_putBackBeyondQuota 32 = .ok (.iload_n 3, 1) := by decide +kernel
theorem dX4_putBackBeyondQuota_33 : decode cX4_putBackBeyondQuota 33 = .ok (.iaload, 1) := by decide +kernel
theorem dX4_putBackBeyondQuota_34 : decode cX4_putBackBeyondQuota 34 = .ok (.iload_n 1, 1) := by decide +kernel
theorem dX4_putBackBeyondQuota_35 : decode cX4_putBackBeyondQuota 35 = .ok (.if_icmp .ne 19, 3) := by decide +kernel
theorem dX4_putBackBeyondQuota_38 : decode cX4_putBackBeyondQuota 38 = .ok (.aload_n 0, 1) := by decide +kernel
theorem dX4_putBackBeyondQuota_39 : decode cX4_putBackBeyondQuota 39 = .ok (.iload_n 3, 1) := by decide +kernel
theorem dX4_putBackBeyondQuota_40 : decode cX4_putBackBeyondQuota 40 = .ok (.invokevirtual 53, 3) := by decide +kernel
theorem dX4_putBackBeyondQuota_43 : decode cX4_putBackBeyondQuota 43 = .ok (.ifCond .eq 11, 3) := by decide +kernel
theorem dX4_putBackBeyondQuota_46 : decode cX4_putBackBeyondQuota 46 = .ok (.aload_n 0, 1) := by decide +kernel
theorem dX4_putBackBeyondQuota_47 : decode cX4_putBackBeyondQuota 47 = .ok (.iload_n 3, 1) := by decide +kernel
theorem dX4_putBackBeyondQuota_48 : decode cX4_putBackBeyondQuota 48 = .ok (.invokevirtual 59, 3) := by decide +kernel
theorem dX4_putBackBeyondQuota_51 : decode cX4_putBackBeyondQuota 51 = .ok (.iinc 2 1, 3) := by decide +kernel
theorem dX4_putBackBeyondQuota_54 : decode cX4_putBackBeyondQuota 54 = .ok (.iinc 3 (-1), 3) := by decide +kernel
theorem dX4_putBackBeyondQuota_57 : decode cX4_putBackBeyondQuota 57 = .ok (.goto (-48), 3) := by decide +kernel
theorem dX4_putBackBeyondQuota_60 : decode cX4_putBackBeyondQuota 60 = .ok (.iload_n 2, 1) := by decide +kernel
theorem dX4_putBackBeyondQuota_61 : decode cX4_putBackBeyondQuota 61 = .ok (.ireturn, 1) := by decide +kernel
