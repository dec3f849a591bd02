theorem dX6_init_0 : decode cX6_init 0 = .ok (.aload_n 0, 1) := by decide +kernel
theorem dX6_init_1 : decode cX6_init 1 = .ok (.invokespecial 1, 3) := by decide +kernel
theorem dX6_init_4 : decode cX6_init 4 = .ok (.aload_n 0, 1) := by decide +kernel
theorem dX6_init_5 : decode cX6_init 5 = .ok (.bipush 12, 2) := by decide +kernel
theorem dX6_init_7 : decode cX6_init 7 = .ok (.newarray .int, 2) := by decide +kernel
theorem dX6_init_9 : decode cX6_init 9 = .ok (.putfield 9, 3) := by decide +kernel
theorem dX6_init_12 : decode cX6_init 12 = .ok (.aload_n 0, 1) := by decide +kernel
theorem dX6_init_13 : decode cX6_init 13 = .ok (.iconst 4, 1) := by decide +kernel
theorem dX6_init_14 : decode cX6_init 14 = .ok (.newarray .int, 2) := by decide +kernel
theorem dX6_init_16 : decode cX6_init 16 = .ok (.dup, 1) := by decide +kernel
theorem dX6_init_17 : decode cX6_init 17 = .ok (.iconst 0, 1) := by decide +kernel
theorem dX6_init_18 : decode cX6_init 18 = .ok (.bipush 40, 2) := by decide +kernel
theorem dX6_init_20 : decode cX6_init 20 = .ok (.iastore, 1) := by decide +kernel
theorem dX6_init_21 : decode cX6_init 21 = .ok (.dup, 1) := by decide +kernel
theorem dX6_init_22 : decode cX6_init 22 = .ok (.iconst 1, 1) := by decide +kernel
theorem dX6_init_23 : decode cX6_init 23 = .ok (.bipush 40, 2) := by decide +kernel
theorem dX6_init_25 : decode cX6_init 25 = .ok (.iastore, 1) := by decide +kernel
theorem dX6_init_26 : decode cX6_init 26 = .ok (.dup, 1) := by decide +kernel
theorem dX6_init_27 : decode cX6_init 27 = .ok (.iconst 2, 1) := by decide +kernel
theorem dX6_init_28 : decode cX6_init 28 = .ok (.bipush 40, 2) := by decide +kernel
theorem dX6_init_30 : decode cX6_init 30 = .ok (.iastore, 1) := by decide +kernel
theorem dX6_init_31 : decode cX6_init 31 = .ok (.dup, 1) := by decide +kernel
theorem dX6_init_32 : decode cX6_init 32 = .ok (.iconst 3, 1) := by decide +kernel
theorem dX6_init_33 : decode cX6_init 33 = .ok (.bipush 40, 2) := by decide +kernel
theorem dX6_init_35 : decode cX6_init 35 = .ok (.iastore, 1) := by decide +kernel
theorem dX6_init_36 : decode cX6_init 36 = .ok (.putfield 13, 3) := by decide +kernel
theorem dX6_init_39 : decode cX6_init 39 = .ok (.aload_n 0, 1) := by decide +kernel
theorem dX6_init_40 : decode cX6_init 40 = .ok (.iconst 4, 1) := by decide +kernel
theorem dX6_init_41 : decode cX6_init 41 = .ok (.newarray .int, 2) := by decide +kernel
theorem dX6_init_43 : decode cX6_init 43 = .ok (.dup, 1) := by decide +kernel
theorem dX6_init_44 : decode cX6_init 44 = .ok (.iconst 0, 1) := by decide +kernel
theorem dX6_init_45 : decode cX6_init 45 = .ok (.iconst 1, 1) := by decide +kernel
theorem dX6_init_46 : decode cX6_init 46 = .ok (.iastore, 1) := by decide +kernel
theorem dX6_init_47 : decode cX6_init 47 = .ok (.dup, 1) := by decide +kernel
theorem dX6_init_48 : decode cX6_init 48 = .ok (.iconst 1, 1) := by decide +kernel
theorem dX6_init_49 : decode cX6_init 49 = .ok (.iconst 1, 1) := by decide +kernel
theorem dX6_init_50 : decode cX6_init 50 = .ok (.iastore, 1) := by decide +kernel
theorem dX6_init_51 : decode cX6_init 51 = .ok (.dup, 1) := by decide +kernel
theorem dX6_init_52 : decode cX6_init 52 = .ok (.iconst 2, 1) := by decide +kernel
theorem dX6_init_53 : decode cX6_init 53 = .ok (.iconst 1, 1) := by decide +kernel
theorem dX6_init_54 : decode cX6_init 54 = .ok (.iastore, 1) := by decide +kernel
theorem dX6_init_55 : decode cX6_init 55 = .ok (.dup, 1) := by decide +kernel
theorem dX6_init_56 : decode cX6_init 56 = .ok (.iconst 3, 1) := by decide +kernel
theorem dX6_init_57 : decode cX6_init 57 = .ok (.iconst 1, 1) := by decide +kernel
theorem dX6_init_58 : decode cX6_init 58 = .ok (.iastore, 1) := by decide +kernel
theorem dX6_init_59 : decode cX6_init 59 = .ok (.putfield 16, 3) := by decide +kernel
theorem dX6_init_62 : decode cX6_init 62 = .ok (.aload_n 0, 1) := by decide +kernel
theorem dX6_init_63 : decode cX6_init 63 = .ok (.bipush 40, 2) := by decide +kernel
theorem dX6_init_65 : decode cX6_init 65 = .ok (.newarray .int, 2) := by decide +kernel
theorem dX6_init_67 : decode cX6_init 67 = .ok (.putfield 19, 3) := by decide +kernel
theorem dX6_init_70 : decode cX6_init 70 = .ok (.aload_n 0, 1) := by decide +kernel
theorem dX6_init_71 : decode cX6_init 71 = .ok (.bipush 40, 2) := by decide +kernel
theorem dX6_init_73 : decode cX6_init 73 = .ok (.newarray .int, 2) := by decide +kernel
theorem dX6_init_75 : decode cX6_init 75 = .ok (.putfield 22, 3) := by decide +kernel
theorem dX6_init_78 : decode cX6_init 78 = .ok (.aload_n 0, 1) := by decide +kernel
theorem dX6_init_79 : decode cX6_init 79 = .ok (.bipush 40, 2) := by decide +kernel
theorem dX6_init_81 : decode cX6_init 81 = .ok (.newarray .int, 2) := by decide +kernel
theorem dX6_init_83 : decode cX6_init 83 = .ok (.putfield 25, 3) := by decide +kernel
theorem dX6_init_86 : decode cX6_init 86 = .ok (.aload_n 0, 1) := by decide +kernel
theorem dX6_init_87 : decode cX6_init 87 = .ok (.bipush 40, 2) := by decide +kernel
theorem dX6_init_89 : decode cX6_init 89 = .ok (.newarray .int, 2) := by decide +kernel
theorem dX6_init_91 : decode cX6_init 91 = .ok (.putfield 28, 3) := by decide +kernel
theorem dX6_init_94 : decode cX6_init 94 = .ok (.aload_n 0, 1) := by decide +kernel
theorem dX6_init_95 : decode cX6_init 95 = .ok (.bipush 40, 2) := by decide +kernel
theorem dX6_init_97 : decode cX6_init 97 = .ok (.newarray .int, 2) := by decide +kernel
theorem dX6_init_99 : decode cX6_init 99 = .ok (.putfield 31, 3) := by decide +kernel
theorem dX6_init_102 : decode cX6_init 102 = .ok (.aload_n 0, 1) := by decide +kernel
theorem dX6_init_103 : decode cX6_init 103 = .ok (.iconst 2, 1) := by decide +kernel
theorem dX6_init_104 : decode cX6_init 104 = .ok (.putfield 34, 3) := by decide +kernel
theorem dX6_init_107 : decode cX6_init 107 = .ok (.aload_n 0, 1) := by decide +kernel
theorem dX6_init_108 : decode cX6_init 108 = .ok (.iconst 3, 1) := by decide +kernel
theorem dX6_init_109 : decode cX6_init 109 = .ok (.putfield 38, 3) := by decide +kernel
theorem dX6_init_112 : decode cX6_init 112 = .ok (.aload_n 0, 1) := by decide +kernel
theorem dX6_init_113 : decode cX6_init 113 = .ok (.sipush 400, 3) := by decide +kernel
theorem dX6_init_116 : decode cX6_init 116 = .ok (.newarray .int, 2) := by decide +kernel
theorem dX6_init_118 : decode cX6_init 118 = .ok (.putfield 41, 3) := by decide +kernel
theorem dX6_init_121 : decode cX6_init 121 = .ok (.aload_n 0, 1) := by decide +kernel
theorem dX6_init_122 : decode cX6_init 122 = .ok (.sipush 400, 3) := by decide +kernel
theorem dX6_init_125 : decode cX6_init 125 = .ok (.newarray .int, 2) := by decide +kernel
theorem dX6_init_127 : decode cX6_init 127 = .ok (.putfield 44, 3) := by decide +kernel
theorem dX6_init_130 : decode cX6_init 130 = .ok (.aload_n 0, 1) := by decide +kernel
theorem dX6_init_131 : decode cX6_init 131 = .ok (.bipush 12, 2) := by decide +kernel
theorem dX6_init_133 : decode cX6_init 133 = .ok (.newarray .int, 2) := by decide +kernel
theorem dX6_init_135 : decode cX6_init 135 = .ok (.putfield 47, 3) := by decide +kernel
theorem dX6_init_138 : decode cX6_init 138 = .ok (.aload_n 0, 1) := by decide +kernel
theorem dX6_init_139 : decode cX6_init 139 = .ok (.bipush 40, 2) := by decide +kernel
theorem dX6_init_141 : decode cX6_init 141 = .ok (.newarray .boolean, 2) := by decide +kernel
theorem dX6_init_143 : decode cX6_init 143 = .ok (.putfield 50, 3) := by decide +kernel
theorem dX6_init_146 : decode cX6_init 146 = .ok (.aload_n 0, 1) := by decide +kernel
theorem dX6_init_147 : decode cX6_init 147 = .ok (.bipush 12, 2) := by decide +kernel
theorem dX6_init_149 : decode cX6_init 149 = .ok (.newarray .int, 2) := by decide +kernel
theorem dX6_init_151 : decode cX6_init 151 = .ok (.putfield 54, 3) := by decide +kernel
theorem dX6_init_154 : decode cX6_init 154 = .ok (.aload_n 0, 1) := by decide +kernel
theorem dX6_init_155 : decode cX6_init 155 = .ok (.bipush 12, 2) := by decide +kernel
theorem dX6_init_157 : decode cX6_init 157 = .ok (.newarray .int, 2) := by decide +kernel
theorem dX6_init_159 : decode cX6_init 159 = .ok (.putfield 57, 3) := by decide +kernel
theorem dX6_init_162 : decode cX6_init 162 = .ok (.return_, 1) := by decide +kernel
theorem dX6_thrown_0 : decode cX6_thrown 0 = .ok (.aload_n 0, 1) := by decide +kernel
theorem dX6_thrown_1 : decode cX6_thrown 1 = .ok (.getfield 60, 3) := by decide +kernel
theorem dX6_thrown_4 : decode cX6_thrown 4 = .ok (.ireturn, 1) := by decide +kernel
theorem dX6_fail_0 : decode cX6_fail 0 = .ok (.aload_n 0, 1) := by decide +kernel
theorem dX6_fail_1 : decode cX6_fail 1 = .ok (.iload_n 1, 1) := by decide +kernel
theorem dX6_fail_2 : decode cX6_fail 2 = .ok (.putfield 60, 3) := by decide +kernel
theorem dX6_fail_5 : decode cX6_fail 5 = .ok (.iconst 0, 1) := by decide +kernel
theorem dX6_fail_6 : decode cX6_fail 6 = .ok (.ireturn, 1) := by decide +kernel
theorem dX6_isResource_0 : decode cX6_isResource 0 = .ok (.iload_n 1, 1) := by decide +kernel
theorem dX6_isResource_1 : decode cX6_isResource 1 = .ok (.ifCond .lt 15, 3) := by decide +kernel
theorem dX6_isResource_4 : decode cX6_isResource 4 = .ok (.iload_n 1, 1) := by decide +kernel
theorem dX6_isResource_5 : decode cX6_isResource 5 = .ok (.aload_n 0, 1) := by decide +kernel
theorem dX6_isResource_6 : decode cX6_isResource 6 = .ok (.getfield 63, 3) := by decide +kernel
theorem dX6_isResource_9 : decode cX6_isResource 9 = .ok (.if_icmp .ge 7, 3) := by decide +kernel
theorem dX6_isResource_12 : decode cX6_isResource 12 = .ok (.iconst 1, 1) := by decide +kernel
theorem dX6_isResource_13 : decode cX6_isResource 13 = .ok (.goto 4, 3) := by decide +kernel
theorem dX6_isResource_16 : decode cX6_isResource 16 = .ok (.iconst 0, 1) := by decide +kernel
theorem dX6_isResource_17 : decode cX6_isResource 17 = .ok (.ireturn, 1) := by decide +kernel
theorem dX6_isRequest_0 : decode cX6_isRequest 0 = .ok (.iload_n 1, 1) := by decide +kernel
theorem dX6_isRequest_1 : decode cX6_isRequest 1 = .ok (.ifCond .lt 15, 3) := by decide +kernel
theorem dX6_isRequest_4 : decode cX6_isRequest 4 = .ok (.iload_n 1, 1) := by decide +kernel
theorem dX6_isRequest_5 : decode cX6_isRequest 5 = .ok (.aload_n 0, 1) := by decide +kernel
theorem dX6_isRequest_6 : decode cX6_isRequest 6 = .ok (.getfield 66, 3) := by decide +kernel
theorem dX6_isRequest_9 : decode cX6_isRequest 9 = .ok (.if_icmp .ge 7, 3) := by decide +kernel
theorem dX6_isRequest_12 : decode cX6_isRequest 12 = .ok (.iconst 1, 1) := by decide +kernel
theorem dX6_isRequest_13 : decode cX6_isRequest 13 = .ok (.goto 4, 3) := by decide +kernel
theorem dX6_isRequest_16 : decode cX6_isRequest 16 = .ok (.iconst 0, 1) := by decide +kernel
theorem dX6_isRequest_17 : decode cX6_isRequest 17 = .ok (.ireturn, 1) := by decide +kernel
theorem dX6_isGroup_0 : decode cX6_isGroup 0 = .ok (.iload_n 0, 1) := by decide +kernel
theorem dX6_isGroup_1 : decode cX6_isGroup 1 = .ok (.ifCond .lt 12, 3) := by decide +kernel
theorem dX6_isGroup_4 : decode cX6_isGroup 4 = .ok (.iload_n 0, 1) := by decide +kernel
theorem dX6_isGroup_5 : decode cX6_isGroup 5 = .ok (.iconst 4, 1) := by decide +kernel
theorem dX6_isGroup_6 : decode cX6_isGroup 6 = .ok (.if_icmp .ge 7, 3) := by decide +kernel
theorem dX6_isGroup_9 : decode cX6_isGroup 9 = .ok (.iconst 1, 1) := by decide +kernel
theorem dX6_isGroup_10 : decode cX6_isGroup 10 = .ok (.goto 4, 3) := by decide +kernel
theorem dX6_isGroup_13 : decode cX6_isGroup 13 = .ok (.iconst 0, 1) := by decide +kernel
theorem dX6_isGroup_14 : decode cX6_isGroup 14 = .ok (.ireturn, 1) := by decide +kernel
theorem dX6_isMask_0 : decode cX6_isMask 0 = .ok (.iload_n 1, 1) := by decide +kernel
theorem dX6_isMask_1 : decode cX6_isMask 1 = .ok (.ifCond .lt 17, 3) := by decide +kernel
theorem dX6_isMask_4 : decode cX6_isMask 4 = .ok (.iload_n 1, 1) := by decide +kernel
theorem dX6_isMask_5 : decode cX6_isMask 5 = .ok (.iconst 1, 1) := by decide +kernel
theorem dX6_isMask_6 : decode cX6_isMask 6 = .ok (.aload_n 0, 1) := by decide +kernel
theorem dX6_isMask_7 : decode cX6_isMask 7 = .ok (.getfield 63, 3) := by decide +kernel
theorem dX6_isMask_10 : decode cX6_isMask 10 = .ok (.ishl, 1) := by decide +kernel
theorem dX6_isMask_11 : decode cX6_isMask 11 = .ok (.if_icmp .ge 7, 3) := by decide +kernel
theorem dX6_isMask_14 : decode cX6_isMask 14 = .ok (.iconst 1, 1) := by decide +kernel
theorem dX6_isMask_15 : decode cX6_isMask 15 = .ok (.goto 4, 3) := by decide +kernel
theorem dX6_isMask_18 : decode cX6_isMask 18 = .ok (.iconst 0, 1) := by decide +kernel
theorem dX6_isMask_19 : decode cX6_isMask 19 = .ok (.ireturn, 1) := by decide +kernel
theorem dX6_accepts_0 : decode cX6_accepts 0 = .ok (.aload_n 0, 1) := by decide +kernel
theorem dX6_accepts_1 : decode cX6_accepts 1 = .ok (.getfield 22, 3) := by decide +kernel
theorem dX6_accepts_4 : decode cX6_accepts 4 = .ok (.iload_n 1, 1) := by decide +kernel
theorem dX6_accepts_5 : decode cX6_accepts 5 = .ok (.iaload, 1) := by decide +kernel
theorem dX6_accepts_6 : decode cX6_accepts 6 = .ok (.iload_n 2, 1) := by decide +kernel
theorem dX6_accepts_7 : decode cX6_accepts 7 = .ok (.ishr, 1) := by decide +kernel
theorem dX6_accepts_8 : decode cX6_accepts 8 = .ok (.iconst 1, 1) := by decide +kernel
theorem dX6_accepts_9 : decode cX6_accepts 9 = .ok (.iand, 1) := by decide +kernel
theorem dX6_accepts_10 : decode cX6_accepts 10 = .ok (.iconst 1, 1) := by decide +kernel
theorem dX6_accepts_11 : decode cX6_accepts 11 = .ok (.if_icmp .ne 7, 3) := by decide +kernel
theorem dX6_accepts_14 : decode cX6_accepts 14 = .ok (.iconst 1, 1) := by decide +kernel
theorem dX6_accepts_15 : decode cX6_accepts 15 = .ok (.goto 4, 3) := by decide +kernel
theorem dX6_accepts_18 : decode cX6_accepts 18 = .ok (.iconst 0, 1) := by decide +kernel
theorem dX6_accepts_19 : decode cX6_accepts 19 = .ok (.ireturn, 1) := by decide +kernel
theorem dX6_isAt_0 : decode cX6_isAt 0 = .ok (.aload_n 0, 1) := by decide +kernel
theorem dX6_isAt_1 : decode cX6_isAt 1 = .ok (.getfield 25, 3) := by decide +kernel
theorem dX6_isAt_4 : decode cX6_isAt 4 = .ok (.iload_n 1, 1) := by decide +kernel
theorem dX6_isAt_5 : decode cX6_isAt 5 = .ok (.iaload, 1) := by decide +kernel
theorem dX6_isAt_6 : decode cX6_isAt 6 = .ok (.iconst 1, 1) := by decide +kernel
theorem dX6_isAt_7 : decode cX6_isAt 7 = .ok (.if_icmp .ne 17, 3) := by decide +kernel
theorem dX6_isAt_10 : decode cX6_isAt 10 = .ok (.aload_n 0, 1) := by decide +kernel
theorem dX6_isAt_11 : decode cX6_isAt 11 = .ok (.getfield 28, 3) := by decide +kernel
theorem dX6_isAt_14 : decode cX6_isAt 14 = .ok (.iload_n 1, 1) := by decide +kernel
theorem dX6_isAt_15 : decode cX6_isAt 15 = .ok (.iaload, 1) := by decide +kernel
theorem dX6_isAt_16 : decode cX6_isAt 16 = .ok (.iload_n 2, 1) := by decide +kernel
theorem dX6_isAt_17 : decode cX6_isAt 17 = .ok (.if_icmp .ne 7, 3) := by decide +kernel
theorem dX6_isAt_20 : decode cX6_isAt 20 = .ok (.iconst 1, 1) := by decide +kernel
theorem dX6_isAt_21 : decode cX6_isAt 21 = .ok (.goto 4, 3) := by decide +kernel
theorem dX6_isAt_24 : decode cX6_isAt 24 = .ok (.iconst 0, 1) := by decide +kernel
theorem dX6_isAt_25 : decode cX6_isAt 25 = .ok (.ireturn, 1) := by decide +kernel
theorem dX6_loadOf_0 : decode cX6_loadOf 0 = .ok (.iconst 0, 1) := by decide +kernel
theorem dX6_loadOf_1 : decode cX6_loadOf 1 = .ok (.istore_n 2, 1) := by decide +kernel
theorem dX6_loadOf_2 : decode cX6_loadOf 2 = .ok (.iconst 0, 1) := by decide +kernel
theorem dX6_loadOf_3 : decode cX6_loadOf 3 = .ok (.istore_n 3, 1) := by decide +kernel
theorem dX6_loadOf_4 : decode cX6_loadOf 4 = .ok (.iload_n 3, 1) := by decide +kernel
theorem dX6_loadOf_5 : decode cX6_loadOf 5 = .ok (.aload_n 0, 1) := by decide +kernel
theorem dX6_loadOf_6 : decode cX6_loadOf 6 = .ok (.getfield 66, 3) := by decide +kernel
theorem dX6_loadOf_9 : decode cX6_loadOf 9 = .ok (.if_icmp .ge 26, 3) := by decide +kernel
theorem dX6_loadOf_12 : decode cX6_loadOf 12 = .ok (.iload_n 2, 1) := by decide +kernel
theorem dX6_loadOf_13 : decode cX6_loadOf 13 = .ok (.aload_n 0, 1) := by decide +kernel
theorem dX6_loadOf_14 : decode cX6_loadOf 14 = .ok (.iload_n 3, 1) := by decide +kernel
theorem dX6_loadOf_15 : decode cX6_loadOf 15 = .ok (.iload_n 1, 1) := by decide +kernel
theorem dX6_loadOf_16 : decode cX6_loadOf 16 = .ok (.invokevirtual 69, 3) := by decide +kernel
theorem dX6_loadOf_19 : decode cX6_loadOf 19 = .ok (.ifCond .eq 7, 3) := by decide +kernel
theorem dX6_loadOf_22 : decode cX6_loadOf 22 = .ok (.iconst 1, 1) := by decide +kernel
theorem dX6_loadOf_23 : decode cX6_loadOf 23 = .ok (.goto 4, 3) := by decide +kernel
theorem dX6_loadOf_26 : decode cX6_loadOf 26 = .ok (.iconst 0, 1) := by decide +kernel
theorem dX6_loadOf_27 : decode cX6_loadOf 27 = .ok (.iadd, 1) := by decide +kernel
theorem dX6_loadOf_28 : decode cX6_loadOf 28 = .ok (.istore_n 2, 1) := by decide +kernel
theorem dX6_loadOf_29 : decode cX6_loadOf 29 = .ok (.iinc 3 1, 3) := by decide +kernel
theorem dX6_loadOf_32 : decode cX6_loadOf 32 = .ok (.goto (-28), 3) := by decide +kernel
theorem dX6_loadOf_35 : decode cX6_loadOf 35 = .ok (.iload_n 2, 1) := by decide +kernel
theorem dX6_loadOf_36 : decode cX6_loadOf 36 = .ok (.ireturn, 1) := by decide +kernel
theorem dX6_assignedIn_0 : decode cX6_assignedIn 0 = .ok (.iconst 0, 1) := by decide +kernel
theorem dX6_assignedIn_1 : decode cX6_assignedIn 1 = .ok (.istore_n 2, 1) := by decide +kernel
theorem dX6_assignedIn_2 : decode cX6_assignedIn 2 = .ok (.iconst 0, 1) := by decide +kernel
theorem dX6_assignedIn_3 : decode cX6_assignedIn 3 = .ok (.istore_n 3, 1) := by decide +kernel
theorem dX6_assignedIn_4 : decode cX6_assignedIn 4 = .ok (.iload_n 3, 1) := by decide +kernel
theorem dX6_assignedIn_5 : decode cX6_assignedIn 5 = .ok (.aload_n 0, 1) := by decide +kernel
theorem dX6_assignedIn_6 : decode cX6_assignedIn 6 = .ok (.getfield 66, 3) := by decide +kernel
theorem dX6_assignedIn_9 : decode cX6_assignedIn 9 = .ok (.if_icmp .ge 37, 3) := by decide +kernel
theorem dX6_assignedIn_12 : decode cX6_assignedIn 12 = .ok (.iload_n 2, 1) := by decide +kernel
theorem dX6_assignedIn_13 : decode cX6_assignedIn 13 = .ok (.aload_n 0, 1) := by decide +kernel
theorem dX6_assignedIn_14 : decode cX6_assignedIn 14 = .ok (.getfield 25, 3) := by decide +kernel
theorem dX6_assignedIn_17 : decode cX6_assignedIn 17 = .ok (.iload_n 3, 1) := by decide +kernel
theorem dX6_assignedIn_18 : decode cX6_assignedIn 18 = .ok (.iaload, 1) := by decide +kernel
theorem dX6_assignedIn_19 : decode cX6_assignedIn 19 = .ok (.iconst 1, 1) := by decide +kernel
theorem dX6_assignedIn_20 : decode cX6_assignedIn 20 = .ok (.if_icmp .ne 17, 3) := by decide +kernel
theorem dX6_assignedIn_23 : decode cX6_assignedIn 23 = .ok (.aload_n 0, 1) := by decide +kernel
theorem dX6_assignedIn_24 : decode cX6_assignedIn 24 = .ok (.getfield 19, 3) := by decide +kernel
theorem dX6_assignedIn_27 : decode cX6_assignedIn 27 = .ok (.iload_n 3, 1) := by decide +kernel
theorem dX6_assignedIn_28 : decode cX6_assignedIn 28 = .ok (.iaload, 1) := by decide +kernel
theorem dX6_assignedIn_29 : decode cX6_assignedIn 29 = .ok (.iload_n 1, 1) := by decide +kernel
theorem dX6_assignedIn_30 : decode cX6_assignedIn 30 = .ok (.if_icmp .ne 7, 3) := by decide +kernel
theorem dX6_assignedIn_33 : decode cX6_assignedIn 33 = .ok (.iconst 1, 1) := by decide +kernel
theorem dX6_assignedIn_34 : decode cX6_assignedIn 34 = .ok (.goto 4, 3) := by decide +kernel
theorem dX6_assignedIn_37 : decode cX6_assignedIn 37 = .ok (.iconst 0, 1) := by decide +kernel
theorem dX6_assignedIn_38 : decode cX6_assignedIn 38 = .ok (.iadd, 1) := by decide +kernel
theorem dX6_assignedIn_39 : decode cX6_assignedIn 39 = .ok (.istore_n 2, 1) := by decide +kernel
theorem dX6_assignedIn_40 : decode cX6_assignedIn 40 = .ok (.iinc 3 1, 3) := by decide +kernel
theorem dX6_assignedIn_43 : decode cX6_assignedIn 43 = .ok (.goto (-39), 3) := by decide +kernel
theorem dX6_assignedIn_46 : decode cX6_assignedIn 46 = .ok (.iload_n 2, 1) := by decide +kernel
theorem dX6_assignedIn_47 : decode cX6_assignedIn 47 = .ok (.ireturn, 1) := by decide +kernel
theorem dX6_findFar_0 : decode cX6_findFar 0 = .ok (.iconst 0, 1) := by decide +kernel
theorem dX6_findFar_1 : decode cX6_findFar 1 = .ok (.istore_n 1, 1) := by decide +kernel
theorem dX6_findFar_2 : decode cX6_findFar 2 = .ok (.iload_n 1, 1) := by decide +kernel
theorem dX6_findFar_3 : decode cX6_findFar 3 = .ok (.aload_n 0, 1) := by decide +kernel
theorem dX6_findFar_4 : decode cX6_findFar 4 = .ok (.getfield 63, 3) := by decide +kernel
theorem dX6_findFar_7 : decode cX6_findFar 7 = .ok (.if_icmp .ge 35, 3) := by decide +kernel
theorem dX6_findFar_10 : decode cX6_findFar 10 = .ok (.aload_n 0, 1) := by decide +kernel
theorem dX6_findFar_11 : decode cX6_findFar 11 = .ok (.getfield 47, 3) := by decide +kernel
theorem dX6_findFar_14 : decode cX6_findFar 14 = .ok (.iload_n 1, 1) := by decide +kernel
theorem dX6_findFar_15 : decode cX6_findFar 15 = .ok (.aload_n 0, 1) := by decide +kernel
theorem dX6_findFar_16 : decode cX6_findFar 16 = .ok (.iload_n 1, 1) := by decide +kernel
theorem dX6_findFar_17 : decode cX6_findFar 17 = .ok (.invokevirtual 73, 3) := by decide +kernel
theorem dX6_findFar_20 : decode cX6_findFar 20 = .ok (.aload_n 0, 1) := by decide +kernel
theorem dX6_findFar_21 : decode cX6_findFar 21 = .ok (.getfield 9, 3) := by decide +kernel
theorem dX6_findFar_24 : decode cX6_findFar 24 = .ok (.iload_n 1, 1) := by decide +kernel
theorem dX6_findFar_25 : decode cX6_findFar 25 = .ok (.iaload, 1) := by decide +kernel
theorem dX6_findFar_26 : decode cX6_findFar 26 = .ok (.if_icmp .ge 7, 3) := by decide +kernel
theorem dX6_findFar_29 : decode cX6_findFar 29 = .ok (.iconst 1, 1) := by decide +kernel
theorem dX6_findFar_30 : decode cX6_findFar 30 = .ok (.goto 5, 3) := by decide +kernel
theorem dX6_findFar_33 : decode cX6_findFar 33 = .ok (.bipush 100, 2) := by decide +kernel
theorem dX6_findFar_35 : decode cX6_findFar 35 = .ok (.iastore, 1) := by decide +kernel
theorem dX6_findFar_36 : decode cX6_findFar 36 = .ok (.iinc 1 1, 3) := by decide +kernel
theorem dX6_findFar_39 : decode cX6_findFar 39 = .ok (.goto (-37), 3) := by decide +kernel
theorem dX6_findFar_42 : decode cX6_findFar 42 = .ok (.iconst 1, 1) := by decide +kernel
theorem dX6_findFar_43 : decode cX6_findFar 43 = .ok (.istore_n 1, 1) := by decide +kernel
theorem dX6_findFar_44 : decode cX6_findFar 44 = .ok (.iload_n 1, 1) := by decide +kernel
theorem dX6_findFar_45 : decode cX6_findFar 45 = .ok (.ifCond .eq 59, 3) := by decide +kernel
theorem dX6_findFar_48 : decode cX6_findFar 48 = .ok (.iconst 0, 1) := by decide +kernel
theorem dX6_findFar_49 : decode cX6_findFar 49 = .ok (.istore_n 1, 1) := by decide +kernel
theorem dX6_findFar_50 : decode cX6_findFar 50 = .ok (.iconst 0, 1) := by decide +kernel
theorem dX6_findFar_51 : decode cX6_findFar 51 = .ok (.istore_n 2, 1) := by decide +kernel
theorem dX6_findFar_52 : decode cX6_findFar 52 = .ok (.iload_n 2, 1) := by decide +kernel
theorem dX6_findFar_53 : decode cX6_findFar 53 = .ok (.aload_n 0, 1) := by decide +kernel
theorem dX6_findFar_54 : decode cX6_findFar 54 = .ok (.getfield 66, 3) := by decide +kernel
theorem dX6_findFar_57 : decode cX6_findFar 57 = .ok (.if_icmp .ge 44, 3) := by decide +kernel
theorem dX6_findFar_60 : decode cX6_findFar 60 = .ok (.iconst 0, 1) := by decide +kernel
theorem dX6_findFar_61 : decode cX6_findFar 61 = .ok (.istore_n 3, 1) := by decide +kernel
theorem dX6_findFar_62 : decode cX6_findFar 62 = .ok (.iload_n 3, 1) := by decide +kernel
theorem dX6_findFar_63 : decode cX6_findFar 63 = .ok (.aload_n 0, 1) := by decide +kernel
theorem dX6_findFar_64 : decode cX6_findFar 64 = .ok (.getfield 63, 3) := by decide +kernel
theorem dX6_findFar_67 : decode cX6_findFar 67 = .ok (.if_icmp .ge 28, 3) := by decide +kernel
theorem dX6_findFar_70 : decode cX6_findFar 70 = .ok (.aload_n 0, 1) := by decide +kernel
theorem dX6_findFar_71 : decode cX6_findFar 71 = .ok (.iload_n 2, 1) := by decide +kernel
theorem dX6_findFar_72 : decode cX6_findFar 72 = .ok (.iload_n 3, 1) := by decide +kernel
theorem dX6_findFar_73 : decode cX6_findFar 73 = .ok (.invokevirtual 77, 3) := by decide +kernel
theorem dX6_findFar_76 : decode cX6_findFar 76 = .ok (.ifCond .ne 7, 3) := by decide +kernel
theorem dX6_findFar_79 : decode cX6_findFar 79 = .ok (.iload_n 1, 1) := by decide +kernel
theorem dX6_findFar_80 : decode cX6_findFar 80 = .ok (.ifCond .eq 7, 3) := by decide +kernel
theorem dX6_findFar_83 : decode cX6_findFar 83 = .ok (.iconst 1, 1) := by decide +kernel
theorem dX6_findFar_84 : decode cX6_findFar 84 = .ok (.goto 4, 3) := by decide +kernel
theorem dX6_findFar_87 : decode cX6_findFar 87 = .ok (.iconst 0, 1) := by decide +kernel
theorem dX6_findFar_88 : decode cX6_findFar 88 = .ok (.istore_n 1, 1) := by decide +kernel
theorem dX6_findFar_89 : decode cX6_findFar 89 = .ok (.iinc 3 1, 3) := by decide +kernel
theorem dX6_findFar_92 : decode cX6_findFar 92 = .ok (.goto (-30), 3) := by decide +kernel
theorem dX6_findFar_95 : decode cX6_findFar 95 = .ok (.iinc 2 1, 3) := by decide +kernel
theorem dX6_findFar_98 : decode cX6_findFar 98 = .ok (.goto (-46), 3) := by decide +kernel
theorem dX6_findFar_101 : decode cX6_findFar 101 = .ok (.goto (-57), 3) := by decide +kernel
theorem dX6_findFar_104 : decode cX6_findFar 104 = .ok (.return_, 1) := by decide +kernel
theorem dX6_brings_0 : decode cX6_brings 0 = .ok (.aload_n 0, 1) := by decide +kernel
theorem dX6_brings_1 : decode cX6_brings 1 = .ok (.iload_n 1, 1) := by decide +kernel
theorem dX6_brings_2 : decode cX6_brings 2 = .ok (.iload_n 2, 1) := by decide +kernel
theorem dX6_brings_3 : decode cX6_brings 3 = .ok (.invokevirtual 80, 3) := by decide +kernel
theorem dX6_brings_6 : decode cX6_brings 6 = .ok (.ifCond .eq 25, 3) := by decide +kernel
theorem dX6_brings_9 : decode cX6_brings 9 = .ok (.aload_n 0, 1) := by decide +kernel
theorem dX6_brings_10 : decode cX6_brings 10 = .ok (.getfield 47, 3) := by decide +kernel
theorem dX6_brings_13 : decode cX6_brings 13 = .ok (.iload_n 2, 1) := by decide +kernel
theorem dX6_brings_14 : decode cX6_brings 14 = .ok (.iaload, 1) := by decide +kernel
theorem dX6_brings_15 : decode cX6_brings 15 = .ok (.iconst 1, 1) := by decide +kernel
theorem dX6_brings_16 : decode cX6_brings 16 = .ok (.iadd, 1) := by decide +kernel
theorem dX6_brings_17 : decode cX6_brings 17 = .ok (.aload_n 0, 1) := by decide +kernel
theorem dX6_brings_18 : decode cX6_brings 18 = .ok (.getfield 47, 3) := by decide +kernel
theorem dX6_brings_21 : decode cX6_brings 21 = .ok (.aload_n 0, 1) := by decide +kernel
theorem dX6_brings_22 : decode cX6_brings 22 = .ok (.getfield 28, 3) := by decide +kernel
theorem dX6_brings_25 : decode cX6_brings 25 = .ok (.iload_n 1, 1) := by decide +kernel
theorem dX6_brings_26 : decode cX6_brings 26 = .ok (.iaload, 1) := by decide +kernel
theorem dX6_brings_27 : decode cX6_brings 27 = .ok (.iaload, 1) := by decide +kernel
theorem dX6_brings_28 : decode cX6_brings 28 = .ok (.if_icmp .lt 5, 3) := by decide +kernel
theorem dX6_brings_31 : decode cX6_brings 31 = .ok (.iconst 0, 1) := by decide +kernel
theorem dX6_brings_32 : decode cX6_brings 32 = .ok (.ireturn, 1) := by decide +kernel
theorem dX6_brings_33 : decode cX6_brings 33 = .ok (.aload_n 0, 1) := by decide +kernel
theorem dX6_brings_34 : decode cX6_brings 34 = .ok (.getfield 47, 3) := by decide +kernel
theorem dX6_brings_37 : decode cX6_brings 37 = .ok (.aload_n 0, 1) := by decide +kernel
theorem dX6_brings_38 : decode cX6_brings 38 = .ok (.getfield 28, 3) := by decide +kernel
theorem dX6_brings_41 : decode cX6_brings 41 = .ok (.iload_n 1, 1) := by decide +kernel
theorem dX6_brings_42 : decode cX6_brings 42 = .ok (.iaload, 1) := by decide +kernel
theorem dX6_brings_43 : decode cX6_brings 43 = .ok (.aload_n 0, 1) := by decide +kernel
theorem dX6_brings_44 : decode cX6_brings 44 = .ok (.getfield 47, 3) := by decide +kernel
theorem dX6_brings_47 : decode cX6_brings 47 = .ok (.iload_n 2, 1) := by decide +kernel
theorem dX6_brings_48 : decode cX6_brings 48 = .ok (.iaload, 1) := by decide +kernel
theorem dX6_brings_49 : decode cX6_brings 49 = .ok (.iconst 1, 1) := by decide +kernel
theorem dX6_brings_50 : decode cX6_brings 50 = .ok (.iadd, 1) := by decide +kernel
theorem dX6_brings_51 : decode cX6_brings 51 = .ok (.iastore, 1) := by decide +kernel
theorem dX6_brings_52 : decode cX6_brings 52 = .ok (.iconst 1, 1) := by decide +kernel
theorem dX6_brings_53 : decode cX6_brings 53 = .ok (.ireturn, 1) := by decide +kernel
theorem dX6_canMove_0 : decode cX6_canMove 0 = .ok (.aload_n 0, 1) := by decide +kernel
theorem dX6_canMove_1 : decode cX6_canMove 1 = .ok (.getfield 25, 3) := by decide +kernel
theorem dX6_canMove_4 : decode cX6_canMove 4 = .ok (.iload_n 1, 1) := by decide +kernel
theorem dX6_canMove_5 : decode cX6_canMove 5 = .ok (.iaload, 1) := by decide +kernel
theorem dX6_canMove_6 : decode cX6_canMove 6 = .ok (.iconst 1, 1) := by decide +kernel
theorem dX6_canMove_7 : decode cX6_canMove 7 = .ok (.if_icmp .ne 39, 3) := by decide +kernel
theorem dX6_canMove_10 : decode cX6_canMove 10 = .ok (.aload_n 0, 1) := by decide +kernel
theorem dX6_canMove_11 : decode cX6_canMove 11 = .ok (.getfield 31, 3) := by decide +kernel
theorem dX6_canMove_14 : decode cX6_canMove 14 = .ok (.iload_n 1, 1) := by decide +kernel
theorem dX6_canMove_15 : decode cX6_canMove 15 = .ok (.iaload, 1) := by decide +kernel
theorem dX6_canMove_16 : decode cX6_canMove 16 = .ok (.aload_n 0, 1) := by decide +kernel
theorem dX6_canMove_17 : decode cX6_canMove 17 = .ok (.getfield 38, 3) := by decide +kernel
theorem dX6_canMove_20 : decode cX6_canMove 20 = .ok (.if_icmp .ge 26, 3) := by decide +kernel
theorem dX6_canMove_23 : decode cX6_canMove 23 = .ok (.iload_n 2, 1) := by decide +kernel
theorem dX6_canMove_24 : decode cX6_canMove 24 = .ok (.aload_n 0, 1) := by decide +kernel
theorem dX6_canMove_25 : decode cX6_canMove 25 = .ok (.getfield 28, 3) := by decide +kernel
theorem dX6_canMove_28 : decode cX6_canMove 28 = .ok (.iload_n 1, 1) := by decide +kernel
theorem dX6_canMove_29 : decode cX6_canMove 29 = .ok (.iaload, 1) := by decide +kernel
theorem dX6_canMove_30 : decode cX6_canMove 30 = .ok (.if_icmp .eq 16, 3) := by decide +kernel
theorem dX6_canMove_33 : decode cX6_canMove 33 = .ok (.aload_n 0, 1) := by decide +kernel
theorem dX6_canMove_34 : decode cX6_canMove 34 = .ok (.iload_n 1, 1) := by decide +kernel
theorem dX6_canMove_35 : decode cX6_canMove 35 = .ok (.iload_n 2, 1) := by decide +kernel
theorem dX6_canMove_36 : decode cX6_canMove 36 = .ok (.invokevirtual 83, 3) := by decide +kernel
theorem dX6_canMove_39 : decode cX6_canMove 39 = .ok (.ifCond .eq 7, 3) := by decide +kernel
theorem dX6_canMove_42 : decode cX6_canMove 42 = .ok (.iconst 1, 1) := by decide +kernel
theorem dX6_canMove_43 : decode cX6_canMove 43 = .ok (.goto 4, 3) := by decide +kernel
theorem dX6_canMove_46 : decode cX6_canMove 46 = .ok (.iconst 0, 1) := by decide +kernel
theorem dX6_canMove_47 : decode cX6_canMove 47 = .ok (.ireturn, 1) := by decide +kernel
theorem dX6_firstOf_0 : decode cX6_firstOf 0 = .ok (.aload_n 0, 1) := by decide +kernel
theorem dX6_firstOf_1 : decode cX6_firstOf 1 = .ok (.invokevirtual 86, 3) := by decide +kernel
theorem dX6_firstOf_4 : decode cX6_firstOf 4 = .ok (.iconst (-1), 1) := by decide +kernel
theorem dX6_firstOf_5 : decode cX6_firstOf 5 = .ok (.istore_n 2, 1) := by decide +kernel
theorem dX6_firstOf_6 : decode cX6_firstOf 6 = .ok (.iconst 0, 1) := by decide +kernel
theorem dX6_firstOf_7 : decode cX6_firstOf 7 = .ok (.istore_n 3, 1) := by decide +kernel
theorem dX6_firstOf_8 : decode cX6_firstOf 8 = .ok (.iload_n 3, 1) := by decide +kernel
theorem dX6_firstOf_9 : decode cX6_firstOf 9 = .ok (.aload_n 0, 1) := by decide +kernel
theorem dX6_firstOf_10 : decode cX6_firstOf 10 = .ok (.getfield 63, 3) := by decide +kernel
theorem dX6_firstOf_13 : decode cX6_firstOf 13 = .ok (.if_icmp .ge 51, 3) := by decide +kernel
theorem dX6_firstOf_16 : decode cX6_firstOf 16 = .ok (.aload_n 0, 1) := by decide +kernel
theorem dX6_firstOf_17 : decode cX6_firstOf 17 = .ok (.iload_n 1, 1) := by decide +kernel
theorem dX6_firstOf_18 : decode cX6_firstOf 18 = .ok (.iload_n 3, 1) := by decide +kernel
theorem dX6_firstOf_19 : decode cX6_firstOf 19 = .ok (.invokevirtual 83, 3) := by decide +kernel
theorem dX6_firstOf_22 : decode cX6_firstOf 22 = .ok (.ifCond .eq 36, 3) := by decide +kernel
theorem dX6_firstOf_25 : decode cX6_firstOf 25 = .ok (.aload_n 0, 1) := by decide +kernel
theorem dX6_firstOf_26 : decode cX6_firstOf 26 = .ok (.getfield 47, 3) := by decide +kernel
theorem dX6_firstOf_29 : decode cX6_firstOf 29 = .ok (.iload_n 3, 1) := by decide +kernel
theorem dX6_firstOf_30 : decode cX6_firstOf 30 = .ok (.iaload, 1) := by decide +kernel
theorem dX6_firstOf_31 : decode cX6_firstOf 31 = .ok (.bipush 100, 2) := by decide +kernel
theorem dX6_firstOf_33 : decode cX6_firstOf 33 = .ok (.if_icmp .ge 25, 3) := by decide +kernel
theorem dX6_firstOf_36 : decode cX6_firstOf 36 = .ok (.iload_n 2, 1) := by decide +kernel
theorem dX6_firstOf_37 : decode cX6_firstOf 37 = .ok (.iconst (-1), 1) := by decide +kernel
theorem dX6_firstOf_38 : decode cX6_firstOf 38 = .ok (.if_icmp .eq 18, 3) := by decide +kernel
theorem dX6_firstOf_41 : decode cX6_firstOf 41 = .ok (.aload_n 0, 1) := by decide +kernel
theorem dX6_firstOf_42 : decode cX6_firstOf 42 = .ok (.getfield 47, 3) := by decide +kernel
theorem dX6_firstOf_45 : decode cX6_firstOf 45 = .ok (.iload_n 3, 1) := by decide +kernel
theorem dX6_firstOf_46 : decode cX6_firstOf 46 = .ok (.iaload, 1) := by decide +kernel
theorem dX6_firstOf_47 : decode cX6_firstOf 47 = .ok (.aload_n 0, 1) := by decide +kernel
theorem dX6_firstOf_48 : decode cX6_firstOf 48 = .ok (.getfield 47, 3) := by decide +kernel
theorem dX6_firstOf_51 : decode cX6_firstOf 51 = .ok (.iload_n 2, 1) := by decide +kernel
theorem dX6_firstOf_52 : decode cX6_firstOf 52 = .ok (.iaload, 1) := by decide +kernel
theorem dX6_firstOf_53 : decode cX6_firstOf 53 = .ok (.if_icmp .ge 5, 3) := by decide +kernel
theorem dX6_firstOf_56 : decode cX6_firstOf 56 = .ok (.iload_n 3, 1) := by decide +kernel
theorem dX6_firstOf_57 : decode cX6_firstOf 57 = .ok (.istore_n 2, 1) := by decide +kernel
theorem dX6_firstOf_58 : decode cX6_firstOf 58 = .ok (.iinc 3 1, 3) := by decide +kernel
theorem dX6_firstOf_61 : decode cX6_firstOf 61 = .ok (.goto (-53), 3) := by decide +kernel
theorem dX6_firstOf_64 : decode cX6_firstOf 64 = .ok (.iload_n 2, 1) := by decide +kernel
theorem dX6_firstOf_65 : decode cX6_firstOf 65 = .ok (.ireturn, 1) := by decide +kernel
theorem dX6_isPlaced_0 : decode cX6_isPlaced 0 = .ok (.aload_n 0, 1) := by decide +kernel
theorem dX6_isPlaced_1 : decode cX6_isPlaced 1 = .ok (.aload_n 0, 1) := by decide +kernel
theorem dX6_isPlaced_2 : decode cX6_isPlaced 2 = .ok (.getfield 19, 3) := by decide +kernel
theorem dX6_isPlaced_5 : decode cX6_isPlaced 5 = .ok (.iload_n 1, 1) := by decide +kernel
theorem dX6_isPlaced_6 : decode cX6_isPlaced 6 = .ok (.iaload, 1) := by decide +kernel
theorem dX6_isPlaced_7 : decode cX6_isPlaced 7 = .ok (.invokevirtual 89, 3) := by decide +kernel
theorem dX6_isPlaced_10 : decode cX6_isPlaced 10 = .ok (.aload_n 0, 1) := by decide +kernel
theorem dX6_isPlaced_11 : decode cX6_isPlaced 11 = .ok (.getfield 13, 3) := by decide +kernel
theorem dX6_isPlaced_14 : decode cX6_isPlaced 14 = .ok (.aload_n 0, 1) := by decide +kernel
theorem dX6_isPlaced_15 : decode cX6_isPlaced 15 = .ok (.getfield 19, 3) := by decide +kernel
theorem dX6_isPlaced_18 : decode cX6_isPlaced 18 = .ok (.iload_n 1, 1) := by decide +kernel
theorem dX6_isPlaced_19 : decode cX6_isPlaced 19 = .ok (.iaload, 1) := by decide +kernel
theorem dX6_isPlaced_20 : decode cX6_isPlaced 20 = .ok (.iaload, 1) := by decide +kernel
theorem dX6_isPlaced_21 : decode cX6_isPlaced 21 = .ok (.if_icmp .lt 5, 3) := by decide +kernel
theorem dX6_isPlaced_24 : decode cX6_isPlaced 24 = .ok (.iconst 0, 1) := by decide +kernel
theorem dX6_isPlaced_25 : decode cX6_isPlaced 25 = .ok (.ireturn, 1) := by decide +kernel
theorem dX6_isPlaced_26 : decode cX6_isPlaced 26 = .ok (.aload_n 0, 1) := by decide +kernel
theorem dX6_isPlaced_27 : decode cX6_isPlaced 27 = .ok (.iload_n 1, 1) := by decide +kernel
theorem dX6_isPlaced_28 : decode cX6_isPlaced 28 = .ok (.invokevirtual 92, 3) := by decide +kernel
theorem dX6_isPlaced_31 : decode cX6_isPlaced 31 = .ok (.istore_n 2, 1) := by decide +kernel
theorem dX6_isPlaced_32 : decode cX6_isPlaced 32 = .ok (.iload_n 2, 1) := by decide +kernel
theorem dX6_isPlaced_33 : decode cX6_isPlaced 33 = .ok (.iconst (-1), 1) := by decide +kernel
theorem dX6_isPlaced_34 : decode cX6_isPlaced 34 = .ok (.if_icmp .eq 18, 3) := by decide +kernel
theorem dX6_isPlaced_37 : decode cX6_isPlaced 37 = .ok (.aload_n 0, 1) := by decide +kernel
theorem dX6_isPlaced_38 : decode cX6_isPlaced 38 = .ok (.getfield 47, 3) := by decide +kernel
theorem dX6_isPlaced_41 : decode cX6_isPlaced 41 = .ok (.iload_n 2, 1) := by decide +kernel
theorem dX6_isPlaced_42 : decode cX6_isPlaced 42 = .ok (.iaload, 1) := by decide +kernel
theorem dX6_isPlaced_43 : decode cX6_isPlaced 43 = .ok (.iconst 1, 1) := by decide +kernel
theorem dX6_isPlaced_44 : decode cX6_isPlaced 44 = .ok (.isub, 1) := by decide +kernel
theorem dX6_isPlaced_45 : decode cX6_isPlaced 45 = .ok (.aload_n 0, 1) := by decide +kernel
theorem dX6_isPlaced_46 : decode cX6_isPlaced 46 = .ok (.getfield 34, 3) := by decide +kernel
theorem dX6_isPlaced_49 : decode cX6_isPlaced 49 = .ok (.if_icmp .le 5, 3) := by decide +kernel
theorem dX6_isPlaced_52 : decode cX6_isPlaced 52 = .ok (.iconst 0, 1) := by decide +kernel
theorem dX6_isPlaced_53 : decode cX6_isPlaced 53 = .ok (.ireturn, 1) := by decide +kernel
theorem dX6_isPlaced_54 : decode cX6_isPlaced 54 = .ok (.iconst 0, 1) := by decide +kernel
theorem dX6_isPlaced_55 : decode cX6_isPlaced 55 = .ok (.istore_n 3, 1) := by decide +kernel
theorem dX6_isPlaced_56 : decode cX6_isPlaced 56 = .ok (.iload_n 2, 1) := by decide +kernel
theorem dX6_isPlaced_57 : decode cX6_isPlaced 57 = .ok (.istore 4, 2) := by decide +kernel
theorem dX6_isPlaced_59 : decode cX6_isPlaced 59 = .ok (.aload_n 0, 1) := by decide +kernel
theorem dX6_isPlaced_60 : decode cX6_isPlaced 60 = .ok (.getfield 47, 3) := by decide +kernel
theorem dX6_isPlaced_63 : decode cX6_isPlaced 63 = .ok (.iload 4, 2) := by decide +kernel
theorem dX6_isPlaced_65 : decode cX6_isPlaced 65 = .ok (.iaload, 1) := by decide +kernel
theorem dX6_isPlaced_66 : decode cX6_isPlaced 66 = .ok (.iconst 1, 1) := by decide +kernel
theorem dX6_isPlaced_67 : decode cX6_isPlaced 67 = .ok (.if_icmp .le 82, 3) := by decide +kernel
theorem dX6_isPlaced_70 : decode cX6_isPlaced 70 = .ok (.aload_n 0, 1) := by decide +kernel
theorem dX6_isPlaced_71 : decode cX6_isPlaced 71 = .ok (.iload 4, 2) := by decide +kernel
theorem dX6_isPlaced_73 : decode cX6_isPlaced 73 = .ok (.invokevirtual 95, 3) := by decide +kernel
theorem dX6_isPlaced_76 : decode cX6_isPlaced 76 = .ok (.istore 5, 2) := by decide +kernel
theorem dX6_isPlaced_78 : decode cX6_isPlaced 78 = .ok (.iconst 0, 1) := by decide +kernel
theorem dX6_isPlaced_79 : decode cX6_isPlaced 79 = .ok (.istore 6, 2) := by decide +kernel
theorem dX6_isPlaced_81 : decode cX6_isPlaced 81 = .ok (.aload_n 0, 1) := by decide +kernel
theorem dX6_isPlaced_82 : decode cX6_isPlaced 82 = .ok (.iload 5, 2) := by decide +kernel
theorem dX6_isPlaced_84 : decode cX6_isPlaced 84 = .ok (.iload 6, 2) := by decide +kernel
theorem dX6_isPlaced_86 : decode cX6_isPlaced 86 = .ok (.invokevirtual 80, 3) := by decide +kernel
theorem dX6_isPlaced_89 : decode cX6_isPlaced 89 = .ok (.ifCond .eq 22, 3) := by decide +kernel
theorem dX6_isPlaced_92 : decode cX6_isPlaced 92 = .ok (.aload_n 0, 1) := by decide +kernel
theorem dX6_isPlaced_93 : decode cX6_isPlaced 93 = .ok (.getfield 47, 3) := by decide +kernel
theorem dX6_isPlaced_96 : decode cX6_isPlaced 96 = .ok (.iload 6, 2) := by decide +kernel
theorem dX6_isPlaced_98 : decode cX6_isPlaced 98 = .ok (.iaload, 1) := by decide +kernel
theorem dX6_isPlaced_99 : decode cX6_isPlaced 99 = .ok (.aload_n 0, 1) := by decide +kernel
theorem dX6_isPlaced_100 : decode cX6_isPlaced 100 = .ok (.getfield 47, 3) := by decide +kernel
theorem dX6_isPlaced_103 : decode cX6_isPlaced 103 = .ok (.iload 4, 2) := by decide +kernel
theorem dX6_isPlaced_105 : decode cX6_isPlaced 105 = .ok (.iaload, 1) := by decide +kernel
theorem dX6_isPlaced_106 : decode cX6_isPlaced 106 = .ok (.iconst 1, 1) := by decide +kernel
theorem dX6_isPlaced_107 : decode cX6_isPlaced 107 = .ok (.isub, 1) := by decide +kernel
theorem dX6_isPlaced_108 : decode cX6_isPlaced 108 = .ok (.if_icmp .eq 9, 3) := by decide +kernel
theorem dX6_isPlaced_111 : decode cX6_isPlaced 111 = .ok (.iinc 6 1, 3) := by decide +kernel
theorem dX6_isPlaced_114 : decode cX6_isPlaced 114 = .ok (.goto (-33), 3) := by decide +kernel
theorem dX6_isPlaced_117 : decode cX6_isPlaced 117 = .ok (.aload_n 0, 1) := by decide +kernel
theorem dX6_isPlaced_118 : decode cX6_isPlaced 118 = .ok (.getfield 54, 3) := by decide +kernel
theorem dX6_isPlaced_121 : decode cX6_isPlaced 121 = .ok (.iload_n 3, 1) := by decide +kernel
theorem dX6_isPlaced_122 : decode cX6_isPlaced 122 = .ok (.iload 5, 2) := by decide +kernel
theorem dX6_isPlaced_124 : decode cX6_isPlaced 124 = .ok (.iastore, 1) := by decide +kernel
theorem dX6_isPlaced_125 : decode cX6_isPlaced 125 = .ok (.aload_n 0, 1) := by decide +kernel
theorem dX6_isPlaced_126 : decode cX6_isPlaced 126 = .ok (.getfield 57, 3) := by decide +kernel
theorem dX6_isPlaced_129 : decode cX6_isPlaced 129 = .ok (.iload_n 3, 1) := by decide +kernel
theorem dX6_isPlaced_130 : decode cX6_isPlaced 130 = .ok (.iload 6, 2) := by decide +kernel
theorem dX6_isPlaced_132 : decode cX6_isPlaced 132 = .ok (.iastore, 1) := by decide +kernel
theorem dX6_isPlaced_133 : decode cX6_isPlaced 133 = .ok (.iinc 3 1, 3) := by decide +kernel
theorem dX6_isPlaced_136 : decode cX6_isPlaced 136 = .ok (.aload_n 0, 1) := by decide +kernel
theorem dX6_isPlaced_137 : decode cX6_isPlaced 137 = .ok (.getfield 57, 3) := by decide +kernel
theorem dX6_isPlaced_140 : decode cX6_isPlaced 140 = .ok (.iload_n 3, 1) := by decide +kernel
theorem dX6_isPlaced_141 : decode cX6_isPlaced 141 = .ok (.iconst 1, 1) := by decide +kernel
theorem dX6_isPlaced_142 : decode cX6_isPlaced 142 = .ok (.isub, 1) := by decide +kernel
theorem dX6_isPlaced_143 : decode cX6_isPlaced 143 = .ok (.iaload, 1) := by decide +kernel
theorem dX6_isPlaced_144 : decode cX6_isPlaced 144 = .ok (.istore 4, 2) := by decide +kernel
theorem dX6_isPlaced_146 : decode cX6_isPlaced 146 = .ok (.goto (-87), 3) := by decide +kernel
theorem dX6_isPlaced_149 : decode cX6_isPlaced 149 = .ok (.iconst 0, 1) := by decide +kernel
theorem dX6_isPlaced_150 : decode cX6_isPlaced 150 = .ok (.istore 4, 2) := by decide +kernel
theorem dX6_isPlaced_152 : decode cX6_isPlaced 152 = .ok (.iload 4, 2) := by decide +kernel
theorem dX6_isPlaced_154 : decode cX6_isPlaced 154 = .ok (.iload_n 3, 1) := by decide +kernel
theorem dX6_isPlaced_155 : decode cX6_isPlaced 155 = .ok (.if_icmp .ge 27, 3) := by decide +kernel
theorem dX6_isPlaced_158 : decode cX6_isPlaced 158 = .ok (.aload_n 0, 1) := by decide +kernel
theorem dX6_isPlaced_159 : decode cX6_isPlaced 159 = .ok (.aload_n 0, 1) := by decide +kernel
theorem dX6_isPlaced_160 : decode cX6_isPlaced 160 = .ok (.getfield 54, 3) := by decide +kernel
theorem dX6_isPlaced_163 : decode cX6_isPlaced 163 = .ok (.iload 4, 2) := by decide +kernel
theorem dX6_isPlaced_165 : decode cX6_isPlaced 165 = .ok (.iaload, 1) := by decide +kernel
theorem dX6_isPlaced_166 : decode cX6_isPlaced 166 = .ok (.aload_n 0, 1) := by decide +kernel
theorem dX6_isPlaced_167 : decode cX6_isPlaced 167 = .ok (.getfield 57, 3) := by decide +kernel
theorem dX6_isPlaced_170 : decode cX6_isPlaced 170 = .ok (.iload 4, 2) := by decide +kernel
theorem dX6_isPlaced_172 : decode cX6_isPlaced 172 = .ok (.iaload, 1) := by decide +kernel
theorem dX6_isPlaced_173 : decode cX6_isPlaced 173 = .ok (.invokevirtual 98, 3) := by decide +kernel
theorem dX6_isPlaced_176 : decode cX6_isPlaced 176 = .ok (.iinc 4 1, 3) := by decide +kernel
theorem dX6_isPlaced_179 : decode cX6_isPlaced 179 = .ok (.goto (-27), 3) := by decide +kernel
theorem dX6_isPlaced_182 : decode cX6_isPlaced 182 = .ok (.aload_n 0, 1) := by decide +kernel
theorem dX6_isPlaced_183 : decode cX6_isPlaced 183 = .ok (.getfield 25, 3) := by decide +kernel
theorem dX6_isPlaced_186 : decode cX6_isPlaced 186 = .ok (.iload_n 1, 1) := by decide +kernel
theorem dX6_isPlaced_187 : decode cX6_isPlaced 187 = .ok (.iconst 1, 1) := by decide +kernel
theorem dX6_isPlaced_188 : decode cX6_isPlaced 188 = .ok (.iastore, 1) := by decide +kernel
theorem dX6_isPlaced_189 : decode cX6_isPlaced 189 = .ok (.aload_n 0, 1) := by decide +kernel
theorem dX6_isPlaced_190 : decode cX6_isPlaced 190 = .ok (.getfield 28, 3) := by decide +kernel
theorem dX6_isPlaced_193 : decode cX6_isPlaced 193 = .ok (.iload_n 1, 1) := by decide +kernel
theorem dX6_isPlaced_194 : decode cX6_isPlaced 194 = .ok (.iload_n 2, 1) := by decide +kernel
theorem dX6_isPlaced_195 : decode cX6_isPlaced 195 = .ok (.iastore, 1) := by decide +kernel
theorem dX6_isPlaced_196 : decode cX6_isPlaced 196 = .ok (.iconst 1, 1) := by decide +kernel
theorem dX6_isPlaced_197 : decode cX6_isPlaced 197 = .ok (.ireturn, 1) := by decide +kernel
theorem dX6_movedFrom_0 : decode cX6_movedFrom 0 = .ok (.iconst 0, 1) := by decide +kernel
theorem dX6_movedFrom_1 : decode cX6_movedFrom 1 = .ok (.istore_n 2, 1) := by decide +kernel
theorem dX6_movedFrom_2 : decode cX6_movedFrom 2 = .ok (.iconst 0, 1) := by decide +kernel
theorem dX6_movedFrom_3 : decode cX6_movedFrom 3 = .ok (.istore_n 3, 1) := by decide +kernel
theorem dX6_movedFrom_4 : decode cX6_movedFrom 4 = .ok (.iload_n 3, 1) := by decide +kernel
theorem dX6_movedFrom_5 : decode cX6_movedFrom 5 = .ok (.ifCond .ne 74, 3) := by decide +kernel
theorem dX6_movedFrom_8 : decode cX6_movedFrom 8 = .ok (.iconst 0, 1) := by decide +kernel
theorem dX6_movedFrom_9 : decode cX6_movedFrom 9 = .ok (.istore 4, 2) := by decide +kernel
theorem dX6_movedFrom_11 : decode cX6_movedFrom 11 = .ok (.iload 4, 2) := by decide +kernel
theorem dX6_movedFrom_13 : decode cX6_movedFrom 13 = .ok (.aload_n 0, 1) := by decide +kernel
theorem dX6_movedFrom_14 : decode cX6_movedFrom 14 = .ok (.getfield 63, 3) := by decide +kernel
theorem dX6_movedFrom_17 : decode cX6_movedFrom 17 = .ok (.if_icmp .ge 56, 3) := by decide +kernel
theorem dX6_movedFrom_20 : decode cX6_movedFrom 20 = .ok (.aload_n 0, 1) := by decide +kernel
theorem dX6_movedFrom_21 : decode cX6_movedFrom 21 = .ok (.iload_n 2, 1) := by decide +kernel
theorem dX6_movedFrom_22 : decode cX6_movedFrom 22 = .ok (.iload_n 1, 1) := by decide +kernel
theorem dX6_movedFrom_23 : decode cX6_movedFrom 23 = .ok (.invokevirtual 69, 3) := by decide +kernel
theorem dX6_movedFrom_26 : decode cX6_movedFrom 26 = .ok (.ifCond .eq 47, 3) := by decide +kernel
theorem dX6_movedFrom_29 : decode cX6_movedFrom 29 = .ok (.iload_n 3, 1) := by decide +kernel
theorem dX6_movedFrom_30 : decode cX6_movedFrom 30 = .ok (.ifCond .ne 31, 3) := by decide +kernel
theorem dX6_movedFrom_33 : decode cX6_movedFrom 33 = .ok (.aload_n 0, 1) := by decide +kernel
theorem dX6_movedFrom_34 : decode cX6_movedFrom 34 = .ok (.iload_n 2, 1) := by decide +kernel
theorem dX6_movedFrom_35 : decode cX6_movedFrom 35 = .ok (.iload 4, 2) := by decide +kernel
theorem dX6_movedFrom_37 : decode cX6_movedFrom 37 = .ok (.invokevirtual 80, 3) := by decide +kernel
theorem dX6_movedFrom_40 : decode cX6_movedFrom 40 = .ok (.ifCond .eq 25, 3) := by decide +kernel
theorem dX6_movedFrom_43 : decode cX6_movedFrom 43 = .ok (.aload_n 0, 1) := by decide +kernel
theorem dX6_movedFrom_44 : decode cX6_movedFrom 44 = .ok (.getfield 47, 3) := by decide +kernel
theorem dX6_movedFrom_47 : decode cX6_movedFrom 47 = .ok (.iload 4, 2) := by decide +kernel
theorem dX6_movedFrom_49 : decode cX6_movedFrom 49 = .ok (.iaload, 1) := by decide +kernel
theorem dX6_movedFrom_50 : decode cX6_movedFrom 50 = .ok (.aload_n 0, 1) := by decide +kernel
theorem dX6_movedFrom_51 : decode cX6_movedFrom 51 = .ok (.getfield 47, 3) := by decide +kernel
theorem dX6_movedFrom_54 : decode cX6_movedFrom 54 = .ok (.iload_n 1, 1) := by decide +kernel
theorem dX6_movedFrom_55 : decode cX6_movedFrom 55 = .ok (.iaload, 1) := by decide +kernel
theorem dX6_movedFrom_56 : decode cX6_movedFrom 56 = .ok (.iconst 1, 1) := by decide +kernel
theorem dX6_movedFrom_57 : decode cX6_movedFrom 57 = .ok (.isub, 1) := by decide +kernel
theorem dX6_movedFrom_58 : decode cX6_movedFrom 58 = .ok (.if_icmp .ne 7, 3) := by decide +kernel
theorem dX6_movedFrom_61 : decode cX6_movedFrom 61 = .ok (.iconst 1, 1) := by decide +kernel
theorem dX6_movedFrom_62 : decode cX6_movedFrom 62 = .ok (.goto 4, 3) := by decide +kernel
theorem dX6_movedFrom_65 : decode cX6_movedFrom 65 = .ok (.iconst 0, 1) := by decide +kernel
theorem dX6_movedFrom_66 : decode cX6_movedFrom 66 = .ok (.istore_n 3, 1) := by decide +kernel
theorem dX6_movedFrom_67 : decode cX6_movedFrom 67 = .ok (.iinc 4 1, 3) := by decide +kernel
theorem dX6_movedFrom_70 : decode cX6_movedFrom 70 = .ok (.goto (-59), 3) := by decide +kernel
theorem dX6_movedFrom_73 : decode cX6_movedFrom 73 = .ok (.iinc 2 1, 3) := by decide +kernel
theorem dX6_movedFrom_76 : decode cX6_movedFrom 76 = .ok (.goto (-72), 3) := by decide +kernel
theorem dX6_movedFrom_79 : decode cX6_movedFrom 79 = .ok (.iload_n 2, 1) := by decide +kernel
theorem dX6_movedFrom_80 : decode cX6_movedFrom 80 = .ok (.iconst 1, 1) := by decide +kernel
theorem dX6_movedFrom_81 : decode cX6_movedFrom 81 = .ok (.isub, 1) := by decide +kernel
theorem dX6_movedFrom_82 : decode cX6_movedFrom 82 = .ok (.ireturn, 1) := by decide +kernel
theorem dX6_log_0 : decode cX6_log 0 = .ok (.aload_n 0, 1) := by decide +kernel
theorem dX6_log_1 : decode cX6_log 1 = .ok (.getfield 28, 3) := by decide +kernel
theorem dX6_log_4 : decode cX6_log 4 = .ok (.iload_n 1, 1) := by decide +kernel
theorem dX6_log_5 : decode cX6_log 5 = .ok (.iload_n 2, 1) := by decide +kernel
theorem dX6_log_6 : decode cX6_log 6 = .ok (.iastore, 1) := by decide +kernel
theorem dX6_log_7 : decode cX6_log 7 = .ok (.aload_n 0, 1) := by decide +kernel
theorem dX6_log_8 : decode cX6_log 8 = .ok (.getfield 31, 3) := by decide +kernel
theorem dX6_log_11 : decode cX6_log 11 = .ok (.iload_n 1, 1) := by decide +kernel
theorem dX6_log_12 : decode cX6_log 12 = .ok (.dup2, 1) := by decide +kernel
theorem dX6_log_13 : decode cX6_log 13 = .ok (.iaload, 1) := by decide +kernel
theorem dX6_log_14 : decode cX6_log 14 = .ok (.iconst 1, 1) := by decide +kernel
theorem dX6_log_15 : decode cX6_log 15 = .ok (.iadd, 1) := by decide +kernel
theorem dX6_log_16 : decode cX6_log 16 = .ok (.iastore, 1) := by decide +kernel
theorem dX6_log_17 : decode cX6_log 17 = .ok (.aload_n 0, 1) := by decide +kernel
theorem dX6_log_18 : decode cX6_log 18 = .ok (.getfield 41, 3) := by decide +kernel
theorem dX6_log_21 : decode cX6_log 21 = .ok (.aload_n 0, 1) := by decide +kernel
theorem dX6_log_22 : decode cX6_log 22 = .ok (.getfield 102, 3) := by decide +kernel
theorem dX6_log_25 : decode cX6_log 25 = .ok (.iload_n 1, 1) := by decide +kernel
theorem dX6_log_26 : decode cX6_log 26 = .ok (.iastore, 1) := by decide +kernel
theorem dX6_log_27 : decode cX6_log 27 = .ok (.aload_n 0, 1) := by decide +kernel
theorem dX6_log_28 : decode cX6_log 28 = .ok (.getfield 44, 3) := by decide +kernel
theorem dX6_log_31 : decode cX6_log 31 = .ok (.aload_n 0, 1) := by decide +kernel
theorem dX6_log_32 : decode cX6_log 32 = .ok (.getfield 102, 3) := by decide +kernel
theorem dX6_log_35 : decode cX6_log 35 = .ok (.iload_n 2, 1) := by decide +kernel
theorem dX6_log_36 : decode cX6_log 36 = .ok (.iastore, 1) := by decide +kernel
theorem dX6_log_37 : decode cX6_log 37 = .ok (.aload_n 0, 1) := by decide +kernel
theorem dX6_log_38 : decode cX6_log 38 = .ok (.dup, 1) := by decide +kernel
theorem dX6_log_39 : decode cX6_log 39 = .ok (.getfield 102, 3) := by decide +kernel
theorem dX6_log_42 : decode cX6_log 42 = .ok (.iconst 1, 1) := by decide +kernel
theorem dX6_log_43 : decode cX6_log 43 = .ok (.iadd, 1) := by decide +kernel
theorem dX6_log_44 : decode cX6_log 44 = .ok (.putfield 102, 3) := by decide +kernel
theorem dX6_log_47 : decode cX6_log 47 = .ok (.return_, 1) := by decide +kernel
theorem dX6_run_0 : decode cX6_run 0 = .ok (.iconst 0, 1) := by decide +kernel
theorem dX6_run_1 : decode cX6_run 1 = .ok (.istore_n 1, 1) := by decide +kernel
theorem dX6_run_2 : decode cX6_run 2 = .ok (.iload_n 1, 1) := by decide +kernel
theorem dX6_run_3 : decode cX6_run 3 = .ok (.bipush 40, 2) := by decide +kernel
theorem dX6_run_5 : decode cX6_run 5 = .ok (.if_icmp .ge 16, 3) := by decide +kernel
theorem dX6_run_8 : decode cX6_run 8 = .ok (.aload_n 0, 1) := by decide +kernel
theorem dX6_run_9 : decode cX6_run 9 = .ok (.getfield 50, 3) := by decide +kernel
theorem dX6_run_12 : decode cX6_run 12 = .ok (.iload_n 1, 1) := by decide +kernel
theorem dX6_run_13 : decode cX6_run 13 = .ok (.iconst 0, 1) := by decide +kernel
theorem dX6_run_14 : decode cX6_run 14 = .ok (.bastore, 1) := by decide +kernel
theorem dX6_run_15 : decode cX6_run 15 = .ok (.iinc 1 1, 3) := by decide +kernel
theorem dX6_run_18 : decode cX6_run 18 = .ok (.goto (-16), 3) := by decide +kernel
theorem dX6_run_21 : decode cX6_run 21 = .ok (.iconst 0, 1) := by decide +kernel
theorem dX6_run_22 : decode cX6_run 22 = .ok (.istore_n 1, 1) := by decide +kernel
theorem dX6_run_23 : decode cX6_run 23 = .ok (.aload_n 0, 1) := by decide +kernel
