theorem dL_addResource_0 : decode cL_addResource 0 = .ok (.aload_n 2, 1) := by decide +kernel
theorem dL_addResource_1 : decode cL_addResource 1 = .ok (.iconst 0, 1) := by decide +kernel
theorem dL_addResource_2 : decode cL_addResource 2 = .ok (.aload_n 0, 1) := by decide +kernel
theorem dL_addResource_3 : decode cL_addResource 3 = .ok (.iload_n 1, 1) := by decide +kernel
theorem dL_addResource_4 : decode cL_addResource 4 = .ok (.invokevirtual 7, 3) := by decide +kernel
theorem dL_addResource_7 : decode cL_addResource 7 = .ok (.i2l, 1) := by decide +kernel
theorem dL_addResource_8 : decode cL_addResource 8 = .ok (.lastore, 1) := by decide +kernel
theorem dL_addResource_9 : decode cL_addResource 9 = .ok (.goto 9, 3) := by decide +kernel
theorem dL_addResource_12 : decode cL_addResource 12 = .ok (.astore_n 3, 1) := by decide +kernel
theorem dL_addResource_13 : decode cL_addResource 13 = .ok (.iconst 1, 1) := by decide +kernel
theorem dL_addResource_14 : decode cL_addResource 14 = .ok (.ireturn, 1) := by decide +kernel
theorem dL_addResource_15 : decode cL_addResource 15 = .ok (.astore_n 3, 1) := by decide +kernel
theorem dL_addResource_16 : decode cL_addResource 16 = .ok (.iconst 2, 1) := by decide +kernel
theorem dL_addResource_17 : decode cL_addResource 17 = .ok (.ireturn, 1) := by decide +kernel
theorem dL_addResource_18 : decode cL_addResource 18 = .ok (.iconst 0, 1) := by decide +kernel
theorem dL_addResource_19 : decode cL_addResource 19 = .ok (.ireturn, 1) := by decide +kernel
theorem dL_setCapacity_0 : decode cL_setCapacity 0 = .ok (.aload_n 3, 1) := by decide +kernel
theorem dL_setCapacity_1 : decode cL_setCapacity 1 = .ok (.iconst 0, 1) := by decide +kernel
theorem dL_setCapacity_2 : decode cL_setCapacity 2 = .ok (.aload_n 0, 1) := by decide +kernel
theorem dL_setCapacity_3 : decode cL_setCapacity 3 = .ok (.iload_n 1, 1) := by decide +kernel
theorem dL_setCapacity_4 : decode cL_setCapacity 4 = .ok (.iload_n 2, 1) := by decide +kernel
theorem dL_setCapacity_5 : decode cL_setCapacity 5 = .ok (.invokevirtual 17, 3) := by decide +kernel
theorem dL_setCapacity_8 : decode cL_setCapacity 8 = .ok (.i2l, 1) := by decide +kernel
theorem dL_setCapacity_9 : decode cL_setCapacity 9 = .ok (.lastore, 1) := by decide +kernel
theorem dL_setCapacity_10 : decode cL_setCapacity 10 = .ok (.goto 11, 3) := by decide +kernel
theorem dL_setCapacity_13 : decode cL_setCapacity 13 = .ok (.astore 4, 2) := by decide +kernel
theorem dL_setCapacity_15 : decode cL_setCapacity 15 = .ok (.iconst 1, 1) := by decide +kernel
theorem dL_setCapacity_16 : decode cL_setCapacity 16 = .ok (.ireturn, 1) := by decide +kernel
theorem dL_setCapacity_17 : decode cL_setCapacity 17 = .ok (.astore 4, 2) := by decide +kernel
theorem dL_setCapacity_19 : decode cL_setCapacity 19 = .ok (.iconst 2, 1) := by decide +kernel
theorem dL_setCapacity_20 : decode cL_setCapacity 20 = .ok (.ireturn, 1) := by decide +kernel
theorem dL_setCapacity_21 : decode cL_setCapacity 21 = .ok (.iconst 0, 1) := by decide +kernel
theorem dL_setCapacity_22 : decode cL_setCapacity 22 = .ok (.ireturn, 1) := by decide +kernel
theorem dL_setGroup_0 : decode cL_setGroup 0 = .ok (.aload 4, 2) := by decide +kernel
theorem dL_setGroup_2 : decode cL_setGroup 2 = .ok (.iconst 0, 1) := by decide +kernel
theorem dL_setGroup_3 : decode cL_setGroup 3 = .ok (.aload_n 0, 1) := by decide +kernel
theorem dL_setGroup_4 : decode cL_setGroup 4 = .ok (.iload_n 1, 1) := by decide +kernel
theorem dL_setGroup_5 : decode cL_setGroup 5 = .ok (.iload_n 2, 1) := by decide +kernel
theorem dL_setGroup_6 : decode cL_setGroup 6 = .ok (.iload_n 3, 1) := by decide +kernel
theorem dL_setGroup_7 : decode cL_setGroup 7 = .ok (.invokevirtual 23, 3) := by decide +kernel
theorem dL_setGroup_10 : decode cL_setGroup 10 = .ok (.i2l, 1) := by decide +kernel
theorem dL_setGroup_11 : decode cL_setGroup 11 = .ok (.lastore, 1) := by decide +kernel
theorem dL_setGroup_12 : decode cL_setGroup 12 = .ok (.goto 11, 3) := by decide +kernel
theorem dL_setGroup_15 : decode cL_setGroup 15 = .ok (.astore 5, 2) := by decide +kernel
theorem dL_setGroup_17 : decode cL_setGroup 17 = .ok (.iconst 1, 1) := by decide +kernel
theorem dL_setGroup_18 : decode cL_setGroup 18 = .ok (.ireturn, 1) := by decide +kernel
theorem dL_setGroup_19 : decode cL_setGroup 19 = .ok (.astore 5, 2) := by decide +kernel
theorem dL_setGroup_21 : decode cL_setGroup 21 = .ok (.iconst 2, 1) := by decide +kernel
theorem dL_setGroup_22 : decode cL_setGroup 22 = .ok (.ireturn, 1) := by decide +kernel
theorem dL_setGroup_23 : decode cL_setGroup 23 = .ok (.iconst 0, 1) := by decide +kernel
theorem dL_setGroup_24 : decode cL_setGroup 24 = .ok (.ireturn, 1) := by decide +kernel
theorem dL_setLimits_0 : decode cL_setLimits 0 = .ok (.aload_n 3, 1) := by decide +kernel
theorem dL_setLimits_1 : decode cL_setLimits 1 = .ok (.iconst 0, 1) := by decide +kernel
theorem dL_setLimits_2 : decode cL_setLimits 2 = .ok (.aload_n 0, 1) := by decide +kernel
theorem dL_setLimits_3 : decode cL_setLimits 3 = .ok (.iload_n 1, 1) := by decide +kernel
theorem dL_setLimits_4 : decode cL_setLimits 4 = .ok (.iload_n 2, 1) := by decide +kernel
theorem dL_setLimits_5 : decode cL_setLimits 5 = .ok (.invokevirtual 27, 3) := by decide +kernel
theorem dL_setLimits_8 : decode cL_setLimits 8 = .ok (.i2l, 1) := by decide +kernel
theorem dL_setLimits_9 : decode cL_setLimits 9 = .ok (.lastore, 1) := by decide +kernel
theorem dL_setLimits_10 : decode cL_setLimits 10 = .ok (.goto 7, 3) := by decide +kernel
theorem dL_setLimits_13 : decode cL_setLimits 13 = .ok (.astore 4, 2) := by decide +kernel
theorem dL_setLimits_15 : decode cL_setLimits 15 = .ok (.iconst 1, 1) := by decide +kernel
theorem dL_setLimits_16 : decode cL_setLimits 16 = .ok (.ireturn, 1) := by decide +kernel
theorem dL_setLimits_17 : decode cL_setLimits 17 = .ok (.iconst 0, 1) := by decide +kernel
theorem dL_setLimits_18 : decode cL_setLimits 18 = .ok (.ireturn, 1) := by decide +kernel
theorem dL_arrive_0 : decode cL_arrive 0 = .ok (.aload_n 3, 1) := by decide +kernel
theorem dL_arrive_1 : decode cL_arrive 1 = .ok (.iconst 0, 1) := by decide +kernel
theorem dL_arrive_2 : decode cL_arrive 2 = .ok (.aload_n 0, 1) := by decide +kernel
theorem dL_arrive_3 : decode cL_arrive 3 = .ok (.iload_n 1, 1) := by decide +kernel
theorem dL_arrive_4 : decode cL_arrive 4 = .ok (.iload_n 2, 1) := by decide +kernel
theorem dL_arrive_5 : decode cL_arrive 5 = .ok (.invokevirtual 30, 3) := by decide +kernel
theorem dL_arrive_8 : decode cL_arrive 8 = .ok (.i2l, 1) := by decide +kernel
theorem dL_arrive_9 : decode cL_arrive 9 = .ok (.lastore, 1) := by decide +kernel
theorem dL_arrive_10 : decode cL_arrive 10 = .ok (.goto 15, 3) := by decide +kernel
theorem dL_arrive_13 : decode cL_arrive 13 = .ok (.astore 4, 2) := by decide +kernel
theorem dL_arrive_15 : decode cL_arrive 15 = .ok (.iconst 1, 1) := by decide +kernel
theorem dL_arrive_16 : decode cL_arrive 16 = .ok (.ireturn, 1) := by decide +kernel
theorem dL_arrive_17 : decode cL_arrive 17 = .ok (.astore 4, 2) := by decide +kernel
theorem dL_arrive_19 : decode cL_arrive 19 = .ok (.iconst 2, 1) := by decide +kernel
theorem dL_arrive_20 : decode cL_arrive 20 = .ok (.ireturn, 1) := by decide +kernel
theorem dL_arrive_21 : decode cL_arrive 21 = .ok (.astore 4, 2) := by decide +kernel
theorem dL_arrive_23 : decode cL_arrive 23 = .ok (.iconst 3, 1) := by decide +kernel
theorem dL_arrive_24 : decode cL_arrive 24 = .ok (.ireturn, 1) := by decide +kernel
theorem dL_arrive_25 : decode cL_arrive 25 = .ok (.iconst 0, 1) := by decide +kernel
theorem dL_arrive_26 : decode cL_arrive 26 = .ok (.ireturn, 1) := by decide +kernel
theorem dL_depart_0 : decode cL_depart 0 = .ok (.aload_n 2, 1) := by decide +kernel
theorem dL_depart_1 : decode cL_depart 1 = .ok (.iconst 0, 1) := by decide +kernel
theorem dL_depart_2 : decode cL_depart 2 = .ok (.aload_n 0, 1) := by decide +kernel
theorem dL_depart_3 : decode cL_depart 3 = .ok (.iload_n 1, 1) := by decide +kernel
theorem dL_depart_4 : decode cL_depart 4 = .ok (.invokevirtual 33, 3) := by decide +kernel
theorem dL_depart_7 : decode cL_depart 7 = .ok (.i2l, 1) := by decide +kernel
theorem dL_depart_8 : decode cL_depart 8 = .ok (.lastore, 1) := by decide +kernel
theorem dL_depart_9 : decode cL_depart 9 = .ok (.goto 9, 3) := by decide +kernel
theorem dL_depart_12 : decode cL_depart 12 = .ok (.astore_n 3, 1) := by decide +kernel
theorem dL_depart_13 : decode cL_depart 13 = .ok (.iconst 1, 1) := by decide +kernel
theorem dL_depart_14 : decode cL_depart 14 = .ok (.ireturn, 1) := by decide +kernel
theorem dL_depart_15 : decode cL_depart 15 = .ok (.astore_n 3, 1) := by decide +kernel
theorem dL_depart_16 : decode cL_depart 16 = .ok (.iconst 2, 1) := by decide +kernel
theorem dL_depart_17 : decode cL_depart 17 = .ok (.ireturn, 1) := by decide +kernel
theorem dL_depart_18 : decode cL_depart 18 = .ok (.iconst 0, 1) := by decide +kernel
theorem dL_depart_19 : decode cL_depart 19 = .ok (.ireturn, 1) := by decide +kernel
theorem dL_setAccepts_0 : decode cL_setAccepts 0 = .ok (.aload_n 3, 1) := by decide +kernel
theorem dL_setAccepts_1 : decode cL_setAccepts 1 = .ok (.iconst 0, 1) := by decide +kernel
theorem dL_setAccepts_2 : decode cL_setAccepts 2 = .ok (.aload_n 0, 1) := by decide +kernel
theorem dL_setAccepts_3 : decode cL_setAccepts 3 = .ok (.iload_n 1, 1) := by decide +kernel
theorem dL_setAccepts_4 : decode cL_setAccepts 4 = .ok (.iload_n 2, 1) := by decide +kernel
theorem dL_setAccepts_5 : decode cL_setAccepts 5 = .ok (.invokevirtual 38, 3) := by decide +kernel
theorem dL_setAccepts_8 : decode cL_setAccepts 8 = .ok (.ifCond .eq 7, 3) := by decide +kernel
theorem dL_setAccepts_11 : decode cL_setAccepts 11 = .ok (.lconst 1, 1) := by decide +kernel
theorem dL_setAccepts_12 : decode cL_setAccepts 12 = .ok (.goto 4, 3) := by decide +kernel
theorem dL_setAccepts_15 : decode cL_setAccepts 15 = .ok (.lconst 0, 1) := by decide +kernel
theorem dL_setAccepts_16 : decode cL_setAccepts 16 = .ok (.lastore, 1) := by decide +kernel
theorem dL_setAccepts_17 : decode cL_setAccepts 17 = .ok (.goto 15, 3) := by decide +kernel
theorem dL_setAccepts_20 : decode cL_setAccepts 20 = .ok (.astore 4, 2) := by decide +kernel
theorem dL_setAccepts_22 : decode cL_setAccepts 22 = .ok (.iconst 1, 1) := by decide +kernel
theorem dL_setAccepts_23 : decode cL_setAccepts 23 = .ok (.ireturn, 1) := by decide +kernel
theorem dL_setAccepts_24 : decode cL_setAccepts 24 = .ok (.astore 4, 2) := by decide +kernel
theorem dL_setAccepts_26 : decode cL_setAccepts 26 = .ok (.iconst 2, 1) := by decide +kernel
theorem dL_setAccepts_27 : decode cL_setAccepts 27 = .ok (.ireturn, 1) := by decide +kernel
theorem dL_setAccepts_28 : decode cL_setAccepts 28 = .ok (.astore 4, 2) := by decide +kernel
theorem dL_setAccepts_30 : decode cL_setAccepts 30 = .ok (.iconst 3, 1) := by decide +kernel
theorem dL_setAccepts_31 : decode cL_setAccepts 31 = .ok (.ireturn, 1) := by decide +kernel
theorem dL_setAccepts_32 : decode cL_setAccepts 32 = .ok (.iconst 0, 1) := by decide +kernel
theorem dL_setAccepts_33 : decode cL_setAccepts 33 = .ok (.ireturn, 1) := by decide +kernel
theorem dL_assignedOf_0 : decode cL_assignedOf 0 = .ok (.aload_n 2, 1) := by decide +kernel
theorem dL_assignedOf_1 : decode cL_assignedOf 1 = .ok (.iconst 0, 1) := by decide +kernel
theorem dL_assignedOf_2 : decode cL_assignedOf 2 = .ok (.aload_n 0, 1) := by decide +kernel
theorem dL_assignedOf_3 : decode cL_assignedOf 3 = .ok (.iload_n 1, 1) := by decide +kernel
theorem dL_assignedOf_4 : decode cL_assignedOf 4 = .ok (.invokevirtual 42, 3) := by decide +kernel
theorem dL_assignedOf_7 : decode cL_assignedOf 7 = .ok (.i2l, 1) := by decide +kernel
theorem dL_assignedOf_8 : decode cL_assignedOf 8 = .ok (.lastore, 1) := by decide +kernel
theorem dL_assignedOf_9 : decode cL_assignedOf 9 = .ok (.goto 6, 3) := by decide +kernel
theorem dL_assignedOf_12 : decode cL_assignedOf 12 = .ok (.astore_n 3, 1) := by decide +kernel
theorem dL_assignedOf_13 : decode cL_assignedOf 13 = .ok (.iconst 1, 1) := by decide +kernel
theorem dL_assignedOf_14 : decode cL_assignedOf 14 = .ok (.ireturn, 1) := by decide +kernel
theorem dL_assignedOf_15 : decode cL_assignedOf 15 = .ok (.iconst 0, 1) := by decide +kernel
theorem dL_assignedOf_16 : decode cL_assignedOf 16 = .ok (.ireturn, 1) := by decide +kernel
theorem dL_load_0 : decode cL_load 0 = .ok (.aload_n 2, 1) := by decide +kernel
theorem dL_load_1 : decode cL_load 1 = .ok (.iconst 0, 1) := by decide +kernel
theorem dL_load_2 : decode cL_load 2 = .ok (.aload_n 0, 1) := by decide +kernel
theorem dL_load_3 : decode cL_load 3 = .ok (.iload_n 1, 1) := by decide +kernel
theorem dL_load_4 : decode cL_load 4 = .ok (.invokevirtual 45, 3) := by decide +kernel
theorem dL_load_7 : decode cL_load 7 = .ok (.i2l, 1) := by decide +kernel
theorem dL_load_8 : decode cL_load 8 = .ok (.lastore, 1) := by decide +kernel
theorem dL_load_9 : decode cL_load 9 = .ok (.goto 6, 3) := by decide +kernel
theorem dL_load_12 : decode cL_load 12 = .ok (.astore_n 3, 1) := by decide +kernel
theorem dL_load_13 : decode cL_load 13 = .ok (.iconst 1, 1) := by decide +kernel
theorem dL_load_14 : decode cL_load 14 = .ok (.ireturn, 1) := by decide +kernel
theorem dL_load_15 : decode cL_load 15 = .ok (.iconst 0, 1) := by decide +kernel
theorem dL_load_16 : decode cL_load 16 = .ok (.ireturn, 1) := by decide +kernel
theorem dL_state_0 : decode cL_state 0 = .ok (.aload_n 2, 1) := by decide +kernel
theorem dL_state_1 : decode cL_state 1 = .ok (.iconst 0, 1) := by decide +kernel
theorem dL_state_2 : decode cL_state 2 = .ok (.aload_n 0, 1) := by decide +kernel
theorem dL_state_3 : decode cL_state 3 = .ok (.iload_n 1, 1) := by decide +kernel
theorem dL_state_4 : decode cL_state 4 = .ok (.invokevirtual 48, 3) := by decide +kernel
theorem dL_state_7 : decode cL_state 7 = .ok (.i2l, 1) := by decide +kernel
theorem dL_state_8 : decode cL_state 8 = .ok (.lastore, 1) := by decide +kernel
theorem dL_state_9 : decode cL_state 9 = .ok (.goto 6, 3) := by decide +kernel
theorem dL_state_12 : decode cL_state 12 = .ok (.astore_n 3, 1) := by decide +kernel
theorem dL_state_13 : decode cL_state 13 = .ok (.iconst 1, 1) := by decide +kernel
theorem dL_state_14 : decode cL_state 14 = .ok (.ireturn, 1) := by decide +kernel
theorem dL_state_15 : decode cL_state 15 = .ok (.iconst 0, 1) := by decide +kernel
theorem dL_state_16 : decode cL_state 16 = .ok (.ireturn, 1) := by decide +kernel
theorem dL_resourceOf_0 : decode cL_resourceOf 0 = .ok (.aload_n 2, 1) := by decide +kernel
theorem dL_resourceOf_1 : decode cL_resourceOf 1 = .ok (.iconst 0, 1) := by decide +kernel
theorem dL_resourceOf_2 : decode cL_resourceOf 2 = .ok (.aload_n 0, 1) := by decide +kernel
theorem dL_resourceOf_3 : decode cL_resourceOf 3 = .ok (.iload_n 1, 1) := by decide +kernel
theorem dL_resourceOf_4 : decode cL_resourceOf 4 = .ok (.invokevirtual 51, 3) := by decide +kernel
theorem dL_resourceOf_7 : decode cL_resourceOf 7 = .ok (.i2l, 1) := by decide +kernel
theorem dL_resourceOf_8 : decode cL_resourceOf 8 = .ok (.lastore, 1) := by decide +kernel
theorem dL_resourceOf_9 : decode cL_resourceOf 9 = .ok (.goto 9, 3) := by decide +kernel
theorem dL_resourceOf_12 : decode cL_resourceOf 12 = .ok (.astore_n 3, 1) := by decide +kernel
theorem dL_resourceOf_13 : decode cL_resourceOf 13 = .ok (.iconst 1, 1) := by decide +kernel
theorem dL_resourceOf_14 : decode cL_resourceOf 14 = .ok (.ireturn, 1) := by decide +kernel
theorem dL_resourceOf_15 : decode cL_resourceOf 15 = .ok (.astore_n 3, 1) := by decide +kernel
theorem dL_resourceOf_16 : decode cL_resourceOf 16 = .ok (.iconst 2, 1) := by decide +kernel
theorem dL_resourceOf_17 : decode cL_resourceOf 17 = .ok (.ireturn, 1) := by decide +kernel
theorem dL_resourceOf_18 : decode cL_resourceOf 18 = .ok (.iconst 0, 1) := by decide +kernel
theorem dL_resourceOf_19 : decode cL_resourceOf 19 = .ok (.ireturn, 1) := by decide +kernel
theorem dL_movesOf_0 : decode cL_movesOf 0 = .ok (.aload_n 2, 1) := by decide +kernel
theorem dL_movesOf_1 : decode cL_movesOf 1 = .ok (.iconst 0, 1) := by decide +kernel
theorem dL_movesOf_2 : decode cL_movesOf 2 = .ok (.aload_n 0, 1) := by decide +kernel
theorem dL_movesOf_3 : decode cL_movesOf 3 = .ok (.iload_n 1, 1) := by decide +kernel
theorem dL_movesOf_4 : decode cL_movesOf 4 = .ok (.invokevirtual 54, 3) := by decide +kernel
theorem dL_movesOf_7 : decode cL_movesOf 7 = .ok (.i2l, 1) := by decide +kernel
theorem dL_movesOf_8 : decode cL_movesOf 8 = .ok (.lastore, 1) := by decide +kernel
theorem dL_movesOf_9 : decode cL_movesOf 9 = .ok (.goto 6, 3) := by decide +kernel
theorem dL_movesOf_12 : decode cL_movesOf 12 = .ok (.astore_n 3, 1) := by decide +kernel
theorem dL_movesOf_13 : decode cL_movesOf 13 = .ok (.iconst 1, 1) := by decide +kernel
theorem dL_movesOf_14 : decode cL_movesOf 14 = .ok (.ireturn, 1) := by decide +kernel
theorem dL_movesOf_15 : decode cL_movesOf 15 = .ok (.iconst 0, 1) := by decide +kernel
theorem dL_movesOf_16 : decode cL_movesOf 16 = .ok (.ireturn, 1) := by decide +kernel
theorem dL_movedRequest_0 : decode cL_movedRequest 0 = .ok (.aload_n 2, 1) := by decide +kernel
theorem dL_movedRequest_1 : decode cL_movedRequest 1 = .ok (.iconst 0, 1) := by decide +kernel
theorem dL_movedRequest_2 : decode cL_movedRequest 2 = .ok (.aload_n 0, 1) := by decide +kernel
theorem dL_movedRequest_3 : decode cL_movedRequest 3 = .ok (.iload_n 1, 1) := by decide +kernel
theorem dL_movedRequest_4 : decode cL_movedRequest 4 = .ok (.invokevirtual 57, 3) := by decide +kernel
theorem dL_movedRequest_7 : decode cL_movedRequest 7 = .ok (.i2l, 1) := by decide +kernel
theorem dL_movedRequest_8 : decode cL_movedRequest 8 = .ok (.lastore, 1) := by decide +kernel
theorem dL_movedRequest_9 : decode cL_movedRequest 9 = .ok (.goto 6, 3) := by decide +kernel
theorem dL_movedRequest_12 : decode cL_movedRequest 12 = .ok (.astore_n 3, 1) := by decide +kernel
theorem dL_movedRequest_13 : decode cL_movedRequest 13 = .ok (.iconst 1, 1) := by decide +kernel
theorem dL_movedRequest_14 : decode cL_movedRequest 14 = .ok (.ireturn, 1) := by decide +kernel
theorem dL_movedRequest_15 : decode cL_movedRequest 15 = .ok (.iconst 0, 1) := by decide +kernel
theorem dL_movedRequest_16 : decode cL_movedRequest 16 = .ok (.ireturn, 1) := by decide +kernel
theorem dL_movedTo_0 : decode cL_movedTo 0 = .ok (.aload_n 2, 1) := by decide +kernel
theorem dL_movedTo_1 : decode cL_movedTo 1 = .ok (.iconst 0, 1) := by decide +kernel
theorem dL_movedTo_2 : decode cL_movedTo 2 = .ok (.aload_n 0, 1) := by decide +kernel
theorem dL_movedTo_3 : decode cL_movedTo 3 = .ok (.iload_n 1, 1) := by decide +kernel
theorem dL_movedTo_4 : decode cL_movedTo 4 = .ok (.invokevirtual 60, 3) := by decide +kernel
theorem dL_movedTo_7 : decode cL_movedTo 7 = .ok (.i2l, 1) := by decide +kernel
theorem dL_movedTo_8 : decode cL_movedTo 8 = .ok (.lastore, 1) := by decide +kernel
theorem dL_movedTo_9 : decode cL_movedTo 9 = .ok (.goto 6, 3) := by decide +kernel
theorem dL_movedTo_12 : decode cL_movedTo 12 = .ok (.astore_n 3, 1) := by decide +kernel
theorem dL_movedTo_13 : decode cL_movedTo 13 = .ok (.iconst 1, 1) := by decide +kernel
theorem dL_movedTo_14 : decode cL_movedTo 14 = .ok (.ireturn, 1) := by decide +kernel
theorem dL_movedTo_15 : decode cL_movedTo 15 = .ok (.iconst 0, 1) := by decide +kernel
theorem dL_movedTo_16 : decode cL_movedTo 16 = .ok (.ireturn, 1) := by decide +kernel
theorem dL_movesNeeded_0 : decode cL_movesNeeded 0 = .ok (.aload_n 2, 1) := by decide +kernel
theorem dL_movesNeeded_1 : decode cL_movesNeeded 1 = .ok (.iconst 0, 1) := by decide +kernel
theorem dL_movesNeeded_2 : decode cL_movesNeeded 2 = .ok (.aload_n 0, 1) := by decide +kernel
theorem dL_movesNeeded_3 : decode cL_movesNeeded 3 = .ok (.iload_n 1, 1) := by decide +kernel
theorem dL_movesNeeded_4 : decode cL_movesNeeded 4 = .ok (.invokevirtual 63, 3) := by decide +kernel
theorem dL_movesNeeded_7 : decode cL_movesNeeded 7 = .ok (.i2l, 1) := by decide +kernel
theorem dL_movesNeeded_8 : decode cL_movesNeeded 8 = .ok (.lastore, 1) := by decide +kernel
theorem dL_movesNeeded_9 : decode cL_movesNeeded 9 = .ok (.goto 9, 3) := by decide +kernel
theorem dL_movesNeeded_12 : decode cL_movesNeeded 12 = .ok (.astore_n 3, 1) := by decide +kernel
theorem dL_movesNeeded_13 : decode cL_movesNeeded 13 = .ok (.iconst 1, 1) := by decide +kernel
theorem dL_movesNeeded_14 : decode cL_movesNeeded 14 = .ok (.ireturn, 1) := by decide +kernel
theorem dL_movesNeeded_15 : decode cL_movesNeeded 15 = .ok (.astore_n 3, 1) := by decide +kernel
theorem dL_movesNeeded_16 : decode cL_movesNeeded 16 = .ok (.iconst 2, 1) := by decide +kernel
theorem dL_movesNeeded_17 : decode cL_movesNeeded 17 = .ok (.ireturn, 1) := by decide +kernel
theorem dL_movesNeeded_18 : decode cL_movesNeeded 18 = .ok (.iconst 0, 1) := by decide +kernel
theorem dL_movesNeeded_19 : decode cL_movesNeeded 19 = .ok (.ireturn, 1) := by decide +kernel
theorem dL_gainBy_0 : decode cL_gainBy 0 = .ok (.aload_n 2, 1) := by decide +kernel
theorem dL_gainBy_1 : decode cL_gainBy 1 = .ok (.iconst 0, 1) := by decide +kernel
theorem dL_gainBy_2 : decode cL_gainBy 2 = .ok (.aload_n 0, 1) := by decide +kernel
theorem dL_gainBy_3 : decode cL_gainBy 3 = .ok (.iload_n 1, 1) := by decide +kernel
theorem dL_gainBy_4 : decode cL_gainBy 4 = .ok (.invokevirtual 66, 3) := by decide +kernel
theorem dL_gainBy_7 : decode cL_gainBy 7 = .ok (.i2l, 1) := by decide +kernel
theorem dL_gainBy_8 : decode cL_gainBy 8 = .ok (.lastore, 1) := by decide +kernel
theorem dL_gainBy_9 : decode cL_gainBy 9 = .ok (.goto 6, 3) := by decide +kernel
theorem dL_gainBy_12 : decode cL_gainBy 12 = .ok (.astore_n 3, 1) := by decide +kernel
theorem dL_gainBy_13 : decode cL_gainBy 13 = .ok (.iconst 1, 1) := by decide +kernel
theorem dL_gainBy_14 : decode cL_gainBy 14 = .ok (.ireturn, 1) := by decide +kernel
theorem dL_gainBy_15 : decode cL_gainBy 15 = .ok (.iconst 0, 1) := by decide +kernel
theorem dL_gainBy_16 : decode cL_gainBy 16 = .ok (.ireturn, 1) := by decide +kernel
theorem dL_law_0 : decode cL_law 0 = .ok (.new 8, 3) := by decide +kernel
theorem dL_law_3 : decode cL_law 3 = .ok (.dup, 1) := by decide +kernel
theorem dL_law_4 : decode cL_law 4 = .ok (.invokespecial 69, 3) := by decide +kernel
