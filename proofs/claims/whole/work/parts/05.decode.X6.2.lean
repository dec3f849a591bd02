theorem dX6_resourceOf_18 : decode cX6_resourceOf 18 = .ok (.ireturn, 1) := by decide +kernel
theorem dX6_resourceOf_19 : decode cX6_resourceOf 19 = .ok (.aload_n 0, 1) := by decide +kernel
theorem dX6_resourceOf_20 : decode cX6_resourceOf 20 = .ok (.getfield 25, 3) := by decide +kernel
theorem dX6_resourceOf_23 : decode cX6_resourceOf 23 = .ok (.iload_n 1, 1) := by decide +kernel
theorem dX6_resourceOf_24 : decode cX6_resourceOf 24 = .ok (.iaload, 1) := by decide +kernel
theorem dX6_resourceOf_25 : decode cX6_resourceOf 25 = .ok (.iconst 1, 1) := by decide +kernel
theorem dX6_resourceOf_26 : decode cX6_resourceOf 26 = .ok (.if_icmp .ne 12, 3) := by decide +kernel
theorem dX6_resourceOf_29 : decode cX6_resourceOf 29 = .ok (.aload_n 0, 1) := by decide +kernel
theorem dX6_resourceOf_30 : decode cX6_resourceOf 30 = .ok (.getfield 28, 3) := by decide +kernel
theorem dX6_resourceOf_33 : decode cX6_resourceOf 33 = .ok (.iload_n 1, 1) := by decide +kernel
theorem dX6_resourceOf_34 : decode cX6_resourceOf 34 = .ok (.iaload, 1) := by decide +kernel
theorem dX6_resourceOf_35 : decode cX6_resourceOf 35 = .ok (.goto 8, 3) := by decide +kernel
theorem dX6_resourceOf_38 : decode cX6_resourceOf 38 = .ok (.aload_n 0, 1) := by decide +kernel
theorem dX6_resourceOf_39 : decode cX6_resourceOf 39 = .ok (.iconst 2, 1) := by decide +kernel
theorem dX6_resourceOf_40 : decode cX6_resourceOf 40 = .ok (.invokevirtual 116, 3) := by decide +kernel
theorem dX6_resourceOf_43 : decode cX6_resourceOf 43 = .ok (.ireturn, 1) := by decide +kernel
theorem dX6_movesOf_0 : decode cX6_movesOf 0 = .ok (.aload_n 0, 1) := by decide +kernel
theorem dX6_movesOf_1 : decode cX6_movesOf 1 = .ok (.iconst 0, 1) := by decide +kernel
theorem dX6_movesOf_2 : decode cX6_movesOf 2 = .ok (.putfield 60, 3) := by decide +kernel
theorem dX6_movesOf_5 : decode cX6_movesOf 5 = .ok (.aload_n 0, 1) := by decide +kernel
theorem dX6_movesOf_6 : decode cX6_movesOf 6 = .ok (.iload_n 1, 1) := by decide +kernel
theorem dX6_movesOf_7 : decode cX6_movesOf 7 = .ok (.invokevirtual 131, 3) := by decide +kernel
theorem dX6_movesOf_10 : decode cX6_movesOf 10 = .ok (.ifCond .eq 12, 3) := by decide +kernel
theorem dX6_movesOf_13 : decode cX6_movesOf 13 = .ok (.aload_n 0, 1) := by decide +kernel
theorem dX6_movesOf_14 : decode cX6_movesOf 14 = .ok (.getfield 31, 3) := by decide +kernel
theorem dX6_movesOf_17 : decode cX6_movesOf 17 = .ok (.iload_n 1, 1) := by decide +kernel
theorem dX6_movesOf_18 : decode cX6_movesOf 18 = .ok (.iaload, 1) := by decide +kernel
theorem dX6_movesOf_19 : decode cX6_movesOf 19 = .ok (.goto 8, 3) := by decide +kernel
theorem dX6_movesOf_22 : decode cX6_movesOf 22 = .ok (.aload_n 0, 1) := by decide +kernel
theorem dX6_movesOf_23 : decode cX6_movesOf 23 = .ok (.iconst 1, 1) := by decide +kernel
theorem dX6_movesOf_24 : decode cX6_movesOf 24 = .ok (.invokevirtual 116, 3) := by decide +kernel
theorem dX6_movesOf_27 : decode cX6_movesOf 27 = .ok (.ireturn, 1) := by decide +kernel
theorem dX6_moveCount_0 : decode cX6_moveCount 0 = .ok (.aload_n 0, 1) := by decide +kernel
theorem dX6_moveCount_1 : decode cX6_moveCount 1 = .ok (.iconst 0, 1) := by decide +kernel
theorem dX6_moveCount_2 : decode cX6_moveCount 2 = .ok (.putfield 60, 3) := by decide +kernel
theorem dX6_moveCount_5 : decode cX6_moveCount 5 = .ok (.aload_n 0, 1) := by decide +kernel
theorem dX6_moveCount_6 : decode cX6_moveCount 6 = .ok (.getfield 102, 3) := by decide +kernel
theorem dX6_moveCount_9 : decode cX6_moveCount 9 = .ok (.ireturn, 1) := by decide +kernel
theorem dX6_movedRequest_0 : decode cX6_movedRequest 0 = .ok (.aload_n 0, 1) := by decide +kernel
theorem dX6_movedRequest_1 : decode cX6_movedRequest 1 = .ok (.iconst 0, 1) := by decide +kernel
theorem dX6_movedRequest_2 : decode cX6_movedRequest 2 = .ok (.putfield 60, 3) := by decide +kernel
theorem dX6_movedRequest_5 : decode cX6_movedRequest 5 = .ok (.iload_n 1, 1) := by decide +kernel
theorem dX6_movedRequest_6 : decode cX6_movedRequest 6 = .ok (.ifCond .lt 20, 3) := by decide +kernel
theorem dX6_movedRequest_9 : decode cX6_movedRequest 9 = .ok (.iload_n 1, 1) := by decide +kernel
theorem dX6_movedRequest_10 : decode cX6_movedRequest 10 = .ok (.aload_n 0, 1) := by decide +kernel
theorem dX6_movedRequest_11 : decode cX6_movedRequest 11 = .ok (.getfield 102, 3) := by decide +kernel
theorem dX6_movedRequest_14 : decode cX6_movedRequest 14 = .ok (.if_icmp .ge 12, 3) := by decide +kernel
theorem dX6_movedRequest_17 : decode cX6_movedRequest 17 = .ok (.aload_n 0, 1) := by decide +kernel
theorem dX6_movedRequest_18 : decode cX6_movedRequest 18 = .ok (.getfield 41, 3) := by decide +kernel
theorem dX6_movedRequest_21 : decode cX6_movedRequest 21 = .ok (.iload_n 1, 1) := by decide +kernel
theorem dX6_movedRequest_22 : decode cX6_movedRequest 22 = .ok (.iaload, 1) := by decide +kernel
theorem dX6_movedRequest_23 : decode cX6_movedRequest 23 = .ok (.goto 8, 3) := by decide +kernel
theorem dX6_movedRequest_26 : decode cX6_movedRequest 26 = .ok (.aload_n 0, 1) := by decide +kernel
theorem dX6_movedRequest_27 : decode cX6_movedRequest 27 = .ok (.iconst 1, 1) := by decide +kernel
theorem dX6_movedRequest_28 : decode cX6_movedRequest 28 = .ok (.invokevirtual 116, 3) := by decide +kernel
theorem dX6_movedRequest_31 : decode cX6_movedRequest 31 = .ok (.ireturn, 1) := by decide +kernel
theorem dX6_movedTo_0 : decode cX6_movedTo 0 = .ok (.aload_n 0, 1) := by decide +kernel
theorem dX6_movedTo_1 : decode cX6_movedTo 1 = .ok (.iconst 0, 1) := by decide +kernel
theorem dX6_movedTo_2 : decode cX6_movedTo 2 = .ok (.putfield 60, 3) := by decide +kernel
theorem dX6_movedTo_5 : decode cX6_movedTo 5 = .ok (.iload_n 1, 1) := by decide +kernel
theorem dX6_movedTo_6 : decode cX6_movedTo 6 = .ok (.ifCond .lt 20, 3) := by decide +kernel
theorem dX6_movedTo_9 : decode cX6_movedTo 9 = .ok (.iload_n 1, 1) := by decide +kernel
theorem dX6_movedTo_10 : decode cX6_movedTo 10 = .ok (.aload_n 0, 1) := by decide +kernel
theorem dX6_movedTo_11 : decode cX6_movedTo 11 = .ok (.getfield 102, 3) := by decide +kernel
theorem dX6_movedTo_14 : decode cX6_movedTo 14 = .ok (.if_icmp .ge 12, 3) := by decide +kernel
theorem dX6_movedTo_17 : decode cX6_movedTo 17 = .ok (.aload_n 0, 1) := by decide +kernel
theorem dX6_movedTo_18 : decode cX6_movedTo 18 = .ok (.getfield 44, 3) := by decide +kernel
theorem dX6_movedTo_21 : decode cX6_movedTo 21 = .ok (.iload_n 1, 1) := by decide +kernel
theorem dX6_movedTo_22 : decode cX6_movedTo 22 = .ok (.iaload, 1) := by decide +kernel
theorem dX6_movedTo_23 : decode cX6_movedTo 23 = .ok (.goto 8, 3) := by decide +kernel
theorem dX6_movedTo_26 : decode cX6_movedTo 26 = .ok (.aload_n 0, 1) := by decide +kernel
theorem dX6_movedTo_27 : decode cX6_movedTo 27 = .ok (.iconst 1, 1) := by decide +kernel
theorem dX6_movedTo_28 : decode cX6_movedTo 28 = .ok (.invokevirtual 116, 3) := by decide +kernel
theorem dX6_movedTo_31 : decode cX6_movedTo 31 = .ok (.ireturn, 1) := by decide +kernel
theorem dX6_movesNeeded_0 : decode cX6_movesNeeded 0 = .ok (.aload_n 0, 1) := by decide +kernel
theorem dX6_movesNeeded_1 : decode cX6_movesNeeded 1 = .ok (.iconst 0, 1) := by decide +kernel
theorem dX6_movesNeeded_2 : decode cX6_movesNeeded 2 = .ok (.putfield 60, 3) := by decide +kernel
theorem dX6_movesNeeded_5 : decode cX6_movesNeeded 5 = .ok (.aload_n 0, 1) := by decide +kernel
theorem dX6_movesNeeded_6 : decode cX6_movesNeeded 6 = .ok (.iload_n 1, 1) := by decide +kernel
theorem dX6_movesNeeded_7 : decode cX6_movesNeeded 7 = .ok (.invokevirtual 131, 3) := by decide +kernel
theorem dX6_movesNeeded_10 : decode cX6_movesNeeded 10 = .ok (.ifCond .ne 9, 3) := by decide +kernel
theorem dX6_movesNeeded_13 : decode cX6_movesNeeded 13 = .ok (.aload_n 0, 1) := by decide +kernel
theorem dX6_movesNeeded_14 : decode cX6_movesNeeded 14 = .ok (.iconst 1, 1) := by decide +kernel
theorem dX6_movesNeeded_15 : decode cX6_movesNeeded 15 = .ok (.invokevirtual 116, 3) := by decide +kernel
theorem dX6_movesNeeded_18 : decode cX6_movesNeeded 18 = .ok (.ireturn, 1) := by decide +kernel
theorem dX6_movesNeeded_19 : decode cX6_movesNeeded 19 = .ok (.aload_n 0, 1) := by decide +kernel
theorem dX6_movesNeeded_20 : decode cX6_movesNeeded 20 = .ok (.getfield 25, 3) := by decide +kernel
theorem dX6_movesNeeded_23 : decode cX6_movesNeeded 23 = .ok (.iload_n 1, 1) := by decide +kernel
theorem dX6_movesNeeded_24 : decode cX6_movesNeeded 24 = .ok (.iaload, 1) := by decide +kernel
theorem dX6_movesNeeded_25 : decode cX6_movesNeeded 25 = .ok (.ifCond .eq 9, 3) := by decide +kernel
theorem dX6_movesNeeded_28 : decode cX6_movesNeeded 28 = .ok (.aload_n 0, 1) := by decide +kernel
theorem dX6_movesNeeded_29 : decode cX6_movesNeeded 29 = .ok (.iconst 2, 1) := by decide +kernel
theorem dX6_movesNeeded_30 : decode cX6_movesNeeded 30 = .ok (.invokevirtual 116, 3) := by decide +kernel
theorem dX6_movesNeeded_33 : decode cX6_movesNeeded 33 = .ok (.ireturn, 1) := by decide +kernel
theorem dX6_movesNeeded_34 : decode cX6_movesNeeded 34 = .ok (.aload_n 0, 1) := by decide +kernel
theorem dX6_movesNeeded_35 : decode cX6_movesNeeded 35 = .ok (.iload_n 1, 1) := by decide +kernel
theorem dX6_movesNeeded_36 : decode cX6_movesNeeded 36 = .ok (.invokevirtual 92, 3) := by decide +kernel
theorem dX6_movesNeeded_39 : decode cX6_movesNeeded 39 = .ok (.istore_n 2, 1) := by decide +kernel
theorem dX6_movesNeeded_40 : decode cX6_movesNeeded 40 = .ok (.iload_n 2, 1) := by decide +kernel
theorem dX6_movesNeeded_41 : decode cX6_movesNeeded 41 = .ok (.iconst (-1), 1) := by decide +kernel
theorem dX6_movesNeeded_42 : decode cX6_movesNeeded 42 = .ok (.if_icmp .ne 7, 3) := by decide +kernel
theorem dX6_movesNeeded_45 : decode cX6_movesNeeded 45 = .ok (.iconst (-1), 1) := by decide +kernel
theorem dX6_movesNeeded_46 : decode cX6_movesNeeded 46 = .ok (.goto 11, 3) := by decide +kernel
theorem dX6_movesNeeded_49 : decode cX6_movesNeeded 49 = .ok (.aload_n 0, 1) := by decide +kernel
theorem dX6_movesNeeded_50 : decode cX6_movesNeeded 50 = .ok (.getfield 47, 3) := by decide +kernel
theorem dX6_movesNeeded_53 : decode cX6_movesNeeded 53 = .ok (.iload_n 2, 1) := by decide +kernel
theorem dX6_movesNeeded_54 : decode cX6_movesNeeded 54 = .ok (.iaload, 1) := by decide +kernel
theorem dX6_movesNeeded_55 : decode cX6_movesNeeded 55 = .ok (.iconst 1, 1) := by decide +kernel
theorem dX6_movesNeeded_56 : decode cX6_movesNeeded 56 = .ok (.isub, 1) := by decide +kernel
theorem dX6_movesNeeded_57 : decode cX6_movesNeeded 57 = .ok (.ireturn, 1) := by decide +kernel
theorem dX6_possible_0 : decode cX6_possible 0 = .ok (.bipush 40, 2) := by decide +kernel
theorem dX6_possible_2 : decode cX6_possible 2 = .ok (.istore_n 1, 1) := by decide +kernel
theorem dX6_possible_3 : decode cX6_possible 3 = .ok (.iconst 0, 1) := by decide +kernel
theorem dX6_possible_4 : decode cX6_possible 4 = .ok (.istore_n 2, 1) := by decide +kernel
theorem dX6_possible_5 : decode cX6_possible 5 = .ok (.iload_n 2, 1) := by decide +kernel
theorem dX6_possible_6 : decode cX6_possible 6 = .ok (.bipush 16, 2) := by decide +kernel
theorem dX6_possible_8 : decode cX6_possible 8 = .ok (.if_icmp .ge 181, 3) := by decide +kernel
theorem dX6_possible_11 : decode cX6_possible 11 = .ok (.iconst 0, 1) := by decide +kernel
theorem dX6_possible_12 : decode cX6_possible 12 = .ok (.istore_n 3, 1) := by decide +kernel
theorem dX6_possible_13 : decode cX6_possible 13 = .ok (.iload_n 3, 1) := by decide +kernel
theorem dX6_possible_14 : decode cX6_possible 14 = .ok (.iconst 1, 1) := by decide +kernel
theorem dX6_possible_15 : decode cX6_possible 15 = .ok (.aload_n 0, 1) := by decide +kernel
theorem dX6_possible_16 : decode cX6_possible 16 = .ok (.getfield 63, 3) := by decide +kernel
theorem dX6_possible_19 : decode cX6_possible 19 = .ok (.ishl, 1) := by decide +kernel
theorem dX6_possible_20 : decode cX6_possible 20 = .ok (.if_icmp .ge 163, 3) := by decide +kernel
theorem dX6_possible_23 : decode cX6_possible 23 = .ok (.iconst 0, 1) := by decide +kernel
theorem dX6_possible_24 : decode cX6_possible 24 = .ok (.istore 4, 2) := by decide +kernel
theorem dX6_possible_26 : decode cX6_possible 26 = .ok (.iconst 0, 1) := by decide +kernel
theorem dX6_possible_27 : decode cX6_possible 27 = .ok (.istore 5, 2) := by decide +kernel
theorem dX6_possible_29 : decode cX6_possible 29 = .ok (.iload 5, 2) := by decide +kernel
theorem dX6_possible_31 : decode cX6_possible 31 = .ok (.iconst 4, 1) := by decide +kernel
theorem dX6_possible_32 : decode cX6_possible 32 = .ok (.if_icmp .ge 28, 3) := by decide +kernel
theorem dX6_possible_35 : decode cX6_possible 35 = .ok (.iload 4, 2) := by decide +kernel
theorem dX6_possible_37 : decode cX6_possible 37 = .ok (.iload_n 2, 1) := by decide +kernel
theorem dX6_possible_38 : decode cX6_possible 38 = .ok (.iload 5, 2) := by decide +kernel
theorem dX6_possible_40 : decode cX6_possible 40 = .ok (.ishr, 1) := by decide +kernel
theorem dX6_possible_41 : decode cX6_possible 41 = .ok (.iconst 1, 1) := by decide +kernel
theorem dX6_possible_42 : decode cX6_possible 42 = .ok (.iand, 1) := by decide +kernel
theorem dX6_possible_43 : decode cX6_possible 43 = .ok (.aload_n 0, 1) := by decide +kernel
theorem dX6_possible_44 : decode cX6_possible 44 = .ok (.getfield 13, 3) := by decide +kernel
theorem dX6_possible_47 : decode cX6_possible 47 = .ok (.iload 5, 2) := by decide +kernel
theorem dX6_possible_49 : decode cX6_possible 49 = .ok (.iaload, 1) := by decide +kernel
theorem dX6_possible_50 : decode cX6_possible 50 = .ok (.imul, 1) := by decide +kernel
theorem dX6_possible_51 : decode cX6_possible 51 = .ok (.iadd, 1) := by decide +kernel
theorem dX6_possible_52 : decode cX6_possible 52 = .ok (.istore 4, 2) := by decide +kernel
theorem dX6_possible_54 : decode cX6_possible 54 = .ok (.iinc 5 1, 3) := by decide +kernel
theorem dX6_possible_57 : decode cX6_possible 57 = .ok (.goto (-28), 3) := by decide +kernel
theorem dX6_possible_60 : decode cX6_possible 60 = .ok (.iconst 0, 1) := by decide +kernel
theorem dX6_possible_61 : decode cX6_possible 61 = .ok (.istore 5, 2) := by decide +kernel
theorem dX6_possible_63 : decode cX6_possible 63 = .ok (.iload 5, 2) := by decide +kernel
theorem dX6_possible_65 : decode cX6_possible 65 = .ok (.aload_n 0, 1) := by decide +kernel
theorem dX6_possible_66 : decode cX6_possible 66 = .ok (.getfield 63, 3) := by decide +kernel
theorem dX6_possible_69 : decode cX6_possible 69 = .ok (.if_icmp .ge 28, 3) := by decide +kernel
theorem dX6_possible_72 : decode cX6_possible 72 = .ok (.iload 4, 2) := by decide +kernel
theorem dX6_possible_74 : decode cX6_possible 74 = .ok (.iload_n 3, 1) := by decide +kernel
theorem dX6_possible_75 : decode cX6_possible 75 = .ok (.iload 5, 2) := by decide +kernel
theorem dX6_possible_77 : decode cX6_possible 77 = .ok (.ishr, 1) := by decide +kernel
theorem dX6_possible_78 : decode cX6_possible 78 = .ok (.iconst 1, 1) := by decide +kernel
theorem dX6_possible_79 : decode cX6_possible 79 = .ok (.iand, 1) := by decide +kernel
theorem dX6_possible_80 : decode cX6_possible 80 = .ok (.aload_n 0, 1) := by decide +kernel
theorem dX6_possible_81 : decode cX6_possible 81 = .ok (.getfield 9, 3) := by decide +kernel
theorem dX6_possible_84 : decode cX6_possible 84 = .ok (.iload 5, 2) := by decide +kernel
theorem dX6_possible_86 : decode cX6_possible 86 = .ok (.iaload, 1) := by decide +kernel
theorem dX6_possible_87 : decode cX6_possible 87 = .ok (.imul, 1) := by decide +kernel
theorem dX6_possible_88 : decode cX6_possible 88 = .ok (.iadd, 1) := by decide +kernel
theorem dX6_possible_89 : decode cX6_possible 89 = .ok (.istore 4, 2) := by decide +kernel
theorem dX6_possible_91 : decode cX6_possible 91 = .ok (.iinc 5 1, 3) := by decide +kernel
theorem dX6_possible_94 : decode cX6_possible 94 = .ok (.goto (-31), 3) := by decide +kernel
theorem dX6_possible_97 : decode cX6_possible 97 = .ok (.iconst 0, 1) := by decide +kernel
theorem dX6_possible_98 : decode cX6_possible 98 = .ok (.istore 5, 2) := by decide +kernel
theorem dX6_possible_100 : decode cX6_possible 100 = .ok (.iload 5, 2) := by decide +kernel
theorem dX6_possible_102 : decode cX6_possible 102 = .ok (.aload_n 0, 1) := by decide +kernel
theorem dX6_possible_103 : decode cX6_possible 103 = .ok (.getfield 66, 3) := by decide +kernel
theorem dX6_possible_106 : decode cX6_possible 106 = .ok (.if_icmp .ge 64, 3) := by decide +kernel
theorem dX6_possible_109 : decode cX6_possible 109 = .ok (.iload 4, 2) := by decide +kernel
theorem dX6_possible_111 : decode cX6_possible 111 = .ok (.iload_n 1, 1) := by decide +kernel
theorem dX6_possible_112 : decode cX6_possible 112 = .ok (.if_icmp .ge 58, 3) := by decide +kernel
theorem dX6_possible_115 : decode cX6_possible 115 = .ok (.iload 4, 2) := by decide +kernel
theorem dX6_possible_117 : decode cX6_possible 117 = .ok (.aload_n 0, 1) := by decide +kernel
theorem dX6_possible_118 : decode cX6_possible 118 = .ok (.getfield 25, 3) := by decide +kernel
theorem dX6_possible_121 : decode cX6_possible 121 = .ok (.iload 5, 2) := by decide +kernel
theorem dX6_possible_123 : decode cX6_possible 123 = .ok (.iaload, 1) := by decide +kernel
theorem dX6_possible_124 : decode cX6_possible 124 = .ok (.iconst 2, 1) := by decide +kernel
theorem dX6_possible_125 : decode cX6_possible 125 = .ok (.if_icmp .eq 35, 3) := by decide +kernel
theorem dX6_possible_128 : decode cX6_possible 128 = .ok (.iload_n 2, 1) := by decide +kernel
theorem dX6_possible_129 : decode cX6_possible 129 = .ok (.aload_n 0, 1) := by decide +kernel
theorem dX6_possible_130 : decode cX6_possible 130 = .ok (.getfield 19, 3) := by decide +kernel
theorem dX6_possible_133 : decode cX6_possible 133 = .ok (.iload 5, 2) := by decide +kernel
theorem dX6_possible_135 : decode cX6_possible 135 = .ok (.iaload, 1) := by decide +kernel
theorem dX6_possible_136 : decode cX6_possible 136 = .ok (.ishr, 1) := by decide +kernel
theorem dX6_possible_137 : decode cX6_possible 137 = .ok (.iconst 1, 1) := by decide +kernel
theorem dX6_possible_138 : decode cX6_possible 138 = .ok (.iand, 1) := by decide +kernel
theorem dX6_possible_139 : decode cX6_possible 139 = .ok (.ifCond .ne 21, 3) := by decide +kernel
theorem dX6_possible_142 : decode cX6_possible 142 = .ok (.aload_n 0, 1) := by decide +kernel
theorem dX6_possible_143 : decode cX6_possible 143 = .ok (.getfield 22, 3) := by decide +kernel
theorem dX6_possible_146 : decode cX6_possible 146 = .ok (.iload 5, 2) := by decide +kernel
theorem dX6_possible_148 : decode cX6_possible 148 = .ok (.iaload, 1) := by decide +kernel
theorem dX6_possible_149 : decode cX6_possible 149 = .ok (.iload_n 3, 1) := by decide +kernel
theorem dX6_possible_150 : decode cX6_possible 150 = .ok (.iconst (-1), 1) := by decide +kernel
theorem dX6_possible_151 : decode cX6_possible 151 = .ok (.ixor, 1) := by decide +kernel
theorem dX6_possible_152 : decode cX6_possible 152 = .ok (.iand, 1) := by decide +kernel
theorem dX6_possible_153 : decode cX6_possible 153 = .ok (.ifCond .eq 7, 3) := by decide +kernel
theorem dX6_possible_156 : decode cX6_possible 156 = .ok (.iconst 1, 1) := by decide +kernel
theorem dX6_possible_157 : decode cX6_possible 157 = .ok (.goto 4, 3) := by decide +kernel
theorem dX6_possible_160 : decode cX6_possible 160 = .ok (.iconst 0, 1) := by decide +kernel
theorem dX6_possible_161 : decode cX6_possible 161 = .ok (.iadd, 1) := by decide +kernel
theorem dX6_possible_162 : decode cX6_possible 162 = .ok (.istore 4, 2) := by decide +kernel
theorem dX6_possible_164 : decode cX6_possible 164 = .ok (.iinc 5 1, 3) := by decide +kernel
theorem dX6_possible_167 : decode cX6_possible 167 = .ok (.goto (-67), 3) := by decide +kernel
theorem dX6_possible_170 : decode cX6_possible 170 = .ok (.iload_n 1, 1) := by decide +kernel
theorem dX6_possible_171 : decode cX6_possible 171 = .ok (.iload 4, 2) := by decide +kernel
theorem dX6_possible_173 : decode cX6_possible 173 = .ok (.invokestatic 137, 3) := by decide +kernel
theorem dX6_possible_176 : decode cX6_possible 176 = .ok (.istore_n 1, 1) := by decide +kernel
theorem dX6_possible_177 : decode cX6_possible 177 = .ok (.iinc 3 1, 3) := by decide +kernel
theorem dX6_possible_180 : decode cX6_possible 180 = .ok (.goto (-167), 3) := by decide +kernel
theorem dX6_possible_183 : decode cX6_possible 183 = .ok (.iinc 2 1, 3) := by decide +kernel
theorem dX6_possible_186 : decode cX6_possible 186 = .ok (.goto (-181), 3) := by decide +kernel
theorem dX6_possible_189 : decode cX6_possible 189 = .ok (.iload_n 1, 1) := by decide +kernel
theorem dX6_possible_190 : decode cX6_possible 190 = .ok (.ireturn, 1) := by decide +kernel
theorem dX6_greatestPossible_0 : decode cX6_greatestPossible 0 = .ok (.aload_n 0, 1) := by decide +kernel
theorem dX6_greatestPossible_1 : decode cX6_greatestPossible 1 = .ok (.iconst 0, 1) := by decide +kernel
theorem dX6_greatestPossible_2 : decode cX6_greatestPossible 2 = .ok (.putfield 60, 3) := by decide +kernel
theorem dX6_greatestPossible_5 : decode cX6_greatestPossible 5 = .ok (.aload_n 0, 1) := by decide +kernel
theorem dX6_greatestPossible_6 : decode cX6_greatestPossible 6 = .ok (.invokevirtual 143, 3) := by decide +kernel
theorem dX6_greatestPossible_9 : decode cX6_greatestPossible 9 = .ok (.ireturn, 1) := by decide +kernel
theorem dX6_gainBy_0 : decode cX6_gainBy 0 = .ok (.aload_n 0, 1) := by decide +kernel
theorem dX6_gainBy_1 : decode cX6_gainBy 1 = .ok (.iconst 0, 1) := by decide +kernel
theorem dX6_gainBy_2 : decode cX6_gainBy 2 = .ok (.putfield 60, 3) := by decide +kernel
theorem dX6_gainBy_5 : decode cX6_gainBy 5 = .ok (.aload_n 0, 1) := by decide +kernel
theorem dX6_gainBy_6 : decode cX6_gainBy 6 = .ok (.iload_n 1, 1) := by decide +kernel
theorem dX6_gainBy_7 : decode cX6_gainBy 7 = .ok (.invokevirtual 131, 3) := by decide +kernel
theorem dX6_gainBy_10 : decode cX6_gainBy 10 = .ok (.ifCond .ne 9, 3) := by decide +kernel
theorem dX6_gainBy_13 : decode cX6_gainBy 13 = .ok (.aload_n 0, 1) := by decide +kernel
theorem dX6_gainBy_14 : decode cX6_gainBy 14 = .ok (.iconst 1, 1) := by decide +kernel
theorem dX6_gainBy_15 : decode cX6_gainBy 15 = .ok (.invokevirtual 116, 3) := by decide +kernel
theorem dX6_gainBy_18 : decode cX6_gainBy 18 = .ok (.ireturn, 1) := by decide +kernel
theorem dX6_gainBy_19 : decode cX6_gainBy 19 = .ok (.aload_n 0, 1) := by decide +kernel
theorem dX6_gainBy_20 : decode cX6_gainBy 20 = .ok (.getfield 25, 3) := by decide +kernel
theorem dX6_gainBy_23 : decode cX6_gainBy 23 = .ok (.iload_n 1, 1) := by decide +kernel
theorem dX6_gainBy_24 : decode cX6_gainBy 24 = .ok (.iaload, 1) := by decide +kernel
theorem dX6_gainBy_25 : decode cX6_gainBy 25 = .ok (.iconst 2, 1) := by decide +kernel
theorem dX6_gainBy_26 : decode cX6_gainBy 26 = .ok (.if_icmp .ne 5, 3) := by decide +kernel
theorem dX6_gainBy_29 : decode cX6_gainBy 29 = .ok (.iconst 0, 1) := by decide +kernel
theorem dX6_gainBy_30 : decode cX6_gainBy 30 = .ok (.ireturn, 1) := by decide +kernel
theorem dX6_gainBy_31 : decode cX6_gainBy 31 = .ok (.aload_n 0, 1) := by decide +kernel
theorem dX6_gainBy_32 : decode cX6_gainBy 32 = .ok (.invokevirtual 143, 3) := by decide +kernel
theorem dX6_gainBy_35 : decode cX6_gainBy 35 = .ok (.istore_n 2, 1) := by decide +kernel
theorem dX6_gainBy_36 : decode cX6_gainBy 36 = .ok (.aload_n 0, 1) := by decide +kernel
theorem dX6_gainBy_37 : decode cX6_gainBy 37 = .ok (.getfield 22, 3) := by decide +kernel
theorem dX6_gainBy_40 : decode cX6_gainBy 40 = .ok (.iload_n 1, 1) := by decide +kernel
theorem dX6_gainBy_41 : decode cX6_gainBy 41 = .ok (.iaload, 1) := by decide +kernel
theorem dX6_gainBy_42 : decode cX6_gainBy 42 = .ok (.istore_n 3, 1) := by decide +kernel
theorem dX6_gainBy_43 : decode cX6_gainBy 43 = .ok (.aload_n 0, 1) := by decide +kernel
theorem dX6_gainBy_44 : decode cX6_gainBy 44 = .ok (.getfield 22, 3) := by decide +kernel
theorem dX6_gainBy_47 : decode cX6_gainBy 47 = .ok (.iload_n 1, 1) := by decide +kernel
theorem dX6_gainBy_48 : decode cX6_gainBy 48 = .ok (.iconst 1, 1) := by decide +kernel
theorem dX6_gainBy_49 : decode cX6_gainBy 49 = .ok (.aload_n 0, 1) := by decide +kernel
theorem dX6_gainBy_50 : decode cX6_gainBy 50 = .ok (.getfield 63, 3) := by decide +kernel
theorem dX6_gainBy_53 : decode cX6_gainBy 53 = .ok (.ishl, 1) := by decide +kernel
theorem dX6_gainBy_54 : decode cX6_gainBy 54 = .ok (.iconst 1, 1) := by decide +kernel
theorem dX6_gainBy_55 : decode cX6_gainBy 55 = .ok (.isub, 1) := by decide +kernel
theorem dX6_gainBy_56 : decode cX6_gainBy 56 = .ok (.iastore, 1) := by decide +kernel
theorem dX6_gainBy_57 : decode cX6_gainBy 57 = .ok (.aload_n 0, 1) := by decide +kernel
theorem dX6_gainBy_58 : decode cX6_gainBy 58 = .ok (.invokevirtual 143, 3) := by decide +kernel
theorem dX6_gainBy_61 : decode cX6_gainBy 61 = .ok (.istore 4, 2) := by decide +kernel
theorem dX6_gainBy_63 : decode cX6_gainBy 63 = .ok (.aload_n 0, 1) := by decide +kernel
theorem dX6_gainBy_64 : decode cX6_gainBy 64 = .ok (.getfield 22, 3) := by decide +kernel
theorem dX6_gainBy_67 : decode cX6_gainBy 67 = .ok (.iload_n 1, 1) := by decide +kernel
theorem dX6_gainBy_68 : decode cX6_gainBy 68 = .ok (.iload_n 3, 1) := by decide +kernel
theorem dX6_gainBy_69 : decode cX6_gainBy 69 = .ok (.iastore, 1) := by decide +kernel
theorem dX6_gainBy_70 : decode cX6_gainBy 70 = .ok (.iload 4, 2) := by decide +kernel
theorem dX6_gainBy_72 : decode cX6_gainBy 72 = .ok (.iload_n 2, 1) := by decide +kernel
theorem dX6_gainBy_73 : decode cX6_gainBy 73 = .ok (.isub, 1) := by decide +kernel
theorem dX6_gainBy_74 : decode cX6_gainBy 74 = .ok (.ireturn, 1) := by decide +kernel
theorem dX6_fairness_0 : decode cX6_fairness 0 = .ok (.aload_n 0, 1) := by decide +kernel
theorem dX6_fairness_1 : decode cX6_fairness 1 = .ok (.iconst 0, 1) := by decide +kernel
theorem dX6_fairness_2 : decode cX6_fairness 2 = .ok (.putfield 60, 3) := by decide +kernel
theorem dX6_fairness_5 : decode cX6_fairness 5 = .ok (.dconst 0, 1) := by decide +kernel
theorem dX6_fairness_6 : decode cX6_fairness 6 = .ok (.dstore_n 1, 1) := by decide +kernel
theorem dX6_fairness_7 : decode cX6_fairness 7 = .ok (.dconst 0, 1) := by decide +kernel
theorem dX6_fairness_8 : decode cX6_fairness 8 = .ok (.dstore_n 3, 1) := by decide +kernel
theorem dX6_fairness_9 : decode cX6_fairness 9 = .ok (.iconst 0, 1) := by decide +kernel
theorem dX6_fairness_10 : decode cX6_fairness 10 = .ok (.istore 5, 2) := by decide +kernel
theorem dX6_fairness_12 : decode cX6_fairness 12 = .ok (.iload 5, 2) := by decide +kernel
theorem dX6_fairness_14 : decode cX6_fairness 14 = .ok (.iconst 4, 1) := by decide +kernel
theorem dX6_fairness_15 : decode cX6_fairness 15 = .ok (.if_icmp .ge 40, 3) := by decide +kernel
theorem dX6_fairness_18 : decode cX6_fairness 18 = .ok (.aload_n 0, 1) := by decide +kernel
theorem dX6_fairness_19 : decode cX6_fairness 19 = .ok (.iload 5, 2) := by decide +kernel
theorem dX6_fairness_21 : decode cX6_fairness 21 = .ok (.invokevirtual 89, 3) := by decide +kernel
theorem dX6_fairness_24 : decode cX6_fairness 24 = .ok (.i2d, 1) := by decide +kernel
theorem dX6_fairness_25 : decode cX6_fairness 25 = .ok (.aload_n 0, 1) := by decide +kernel
theorem dX6_fairness_26 : decode cX6_fairness 26 = .ok (.getfield 16, 3) := by decide +kernel
theorem dX6_fairness_29 : decode cX6_fairness 29 = .ok (.iload 5, 2) := by decide +kernel
theorem dX6_fairness_31 : decode cX6_fairness 31 = .ok (.iaload, 1) := by decide +kernel
theorem dX6_fairness_32 : decode cX6_fairness 32 = .ok (.i2d, 1) := by decide +kernel
theorem dX6_fairness_33 : decode cX6_fairness 33 = .ok (.ddiv, 1) := by decide +kernel
theorem dX6_fairness_34 : decode cX6_fairness 34 = .ok (.dstore 6, 2) := by decide +kernel
theorem dX6_fairness_36 : decode cX6_fairness 36 = .ok (.dload_n 1, 1) := by decide +kernel
theorem dX6_fairness_37 : decode cX6_fairness 37 = .ok (.dload 6, 2) := by decide +kernel
theorem dX6_fairness_39 : decode cX6_fairness 39 = .ok (.dadd, 1) := by decide +kernel
theorem dX6_fairness_40 : decode cX6_fairness 40 = .ok (.dstore_n 1, 1) := by decide +kernel
theorem dX6_fairness_41 : decode cX6_fairness 41 = .ok (.dload_n 3, 1) := by decide +kernel
theorem dX6_fairness_42 : decode cX6_fairness 42 = .ok (.dload 6, 2) := by decide +kernel
theorem dX6_fairness_44 : decode cX6_fairness 44 = .ok (.dload 6, 2) := by decide +kernel
theorem dX6_fairness_46 : decode cX6_fairness 46 = .ok (.dmul, 1) := by decide +kernel
theorem dX6_fairness_47 : decode cX6_fairness 47 = .ok (.dadd, 1) := by decide +kernel
theorem dX6_fairness_48 : decode cX6_fairness 48 = .ok (.dstore_n 3, 1) := by decide +kernel
theorem dX6_fairness_49 : decode cX6_fairness 49 = .ok (.iinc 5 1, 3) := by decide +kernel
theorem dX6_fairness_52 : decode cX6_fairness 52 = .ok (.goto (-40), 3) := by decide +kernel
theorem dX6_fairness_55 : decode cX6_fairness 55 = .ok (.aload_n 0, 1) := by decide +kernel
theorem dX6_fairness_56 : decode cX6_fairness 56 = .ok (.iconst 1, 1) := by decide +kernel
theorem dX6_fairness_57 : decode cX6_fairness 57 = .ok (.invokevirtual 134, 3) := by decide +kernel
theorem dX6_fairness_60 : decode cX6_fairness 60 = .ok (.ifCond .ne 7, 3) := by decide +kernel
theorem dX6_fairness_63 : decode cX6_fairness 63 = .ok (.dconst 1, 1) := by decide +kernel
theorem dX6_fairness_64 : decode cX6_fairness 64 = .ok (.goto 12, 3) := by decide +kernel
theorem dX6_fairness_67 : decode cX6_fairness 67 = .ok (.dload_n 1, 1) := by decide +kernel
theorem dX6_fairness_68 : decode cX6_fairness 68 = .ok (.dload_n 1, 1) := by decide +kernel
theorem dX6_fairness_69 : decode cX6_fairness 69 = .ok (.dmul, 1) := by decide +kernel
theorem dX6_fairness_70 : decode cX6_fairness 70 = .ok (.ldc2_w 146, 3) := by decide +kernel
theorem dX6_fairness_73 : decode cX6_fairness 73 = .ok (.dload_n 3, 1) := by decide +kernel
theorem dX6_fairness_74 : decode cX6_fairness 74 = .ok (.dmul, 1) := by decide +kernel
theorem dX6_fairness_75 : decode cX6_fairness 75 = .ok (.ddiv, 1) := by decide +kernel
theorem dX6_fairness_76 : decode cX6_fairness 76 = .ok (.dreturn, 1) := by decide +kernel
theorem dX6_digest_0 : decode cX6_digest 0 = .ok (.aload_n 0, 1) := by decide +kernel
theorem dX6_digest_1 : decode cX6_digest 1 = .ok (.iconst 0, 1) := by decide +kernel
theorem dX6_digest_2 : decode cX6_digest 2 = .ok (.putfield 60, 3) := by decide +kernel
theorem dX6_digest_5 : decode cX6_digest 5 = .ok (.ldc2_w 148, 3) := by decide +kernel
theorem dX6_digest_8 : decode cX6_digest 8 = .ok (.aload_n 0, 1) := by decide +kernel
theorem dX6_digest_9 : decode cX6_digest 9 = .ok (.getfield 63, 3) := by decide +kernel
theorem dX6_digest_12 : decode cX6_digest 12 = .ok (.i2l, 1) := by decide +kernel
theorem dX6_digest_13 : decode cX6_digest 13 = .ok (.ladd, 1) := by decide +kernel
theorem dX6_digest_14 : decode cX6_digest 14 = .ok (.ldc2_w 150, 3) := by decide +kernel
theorem dX6_digest_17 : decode cX6_digest 17 = .ok (.lmul, 1) := by decide +kernel
theorem dX6_digest_18 : decode cX6_digest 18 = .ok (.aload_n 0, 1) := by decide +kernel
theorem dX6_digest_19 : decode cX6_digest 19 = .ok (.getfield 66, 3) := by decide +kernel
theorem dX6_digest_22 : decode cX6_digest 22 = .ok (.i2l, 1) := by decide +kernel
theorem dX6_digest_23 : decode cX6_digest 23 = .ok (.ladd, 1) := by decide +kernel
theorem dX6_digest_24 : decode cX6_digest 24 = .ok (.lstore_n 1, 1) := by decide +kernel
theorem dX6_digest_25 : decode cX6_digest 25 = .ok (.iconst 0, 1) := by decide +kernel
theorem dX6_digest_26 : decode cX6_digest 26 = .ok (.istore_n 3, 1) := by decide +kernel
theorem dX6_digest_27 : decode cX6_digest 27 = .ok (.iload_n 3, 1) := by decide +kernel
theorem dX6_digest_28 : decode cX6_digest 28 = .ok (.aload_n 0, 1) := by decide +kernel
theorem dX6_digest_29 : decode cX6_digest 29 = .ok (.getfield 63, 3) := by decide +kernel
theorem dX6_digest_32 : decode cX6_digest 32 = .ok (.if_icmp .ge 34, 3) := by decide +kernel
theorem dX6_digest_35 : decode cX6_digest 35 = .ok (.lload_n 1, 1) := by decide +kernel
theorem dX6_digest_36 : decode cX6_digest 36 = .ok (.ldc2_w 150, 3) := by decide +kernel
theorem dX6_digest_39 : decode cX6_digest 39 = .ok (.lmul, 1) := by decide +kernel
theorem dX6_digest_40 : decode cX6_digest 40 = .ok (.aload_n 0, 1) := by decide +kernel
theorem dX6_digest_41 : decode cX6_digest 41 = .ok (.getfield 9, 3) := by decide +kernel
theorem dX6_digest_44 : decode cX6_digest 44 = .ok (.iload_n 3, 1) := by decide +kernel
theorem dX6_digest_45 : decode cX6_digest 45 = .ok (.iaload, 1) := by decide +kernel
theorem dX6_digest_46 : decode cX6_digest 46 = .ok (.i2l, 1) := by decide +kernel
theorem dX6_digest_47 : decode cX6_digest 47 = .ok (.ladd, 1) := by decide +kernel
theorem dX6_digest_48 : decode cX6_digest 48 = .ok (.ldc2_w 150, 3) := by decide +kernel
theorem dX6_digest_51 : decode cX6_digest 51 = .ok (.lmul, 1) := by decide +kernel
theorem dX6_digest_52 : decode cX6_digest 52 = .ok (.aload_n 0, 1) := by decide +kernel
theorem dX6_digest_53 : decode cX6_digest 53 = .ok (.iload_n 3, 1) := by decide +kernel
theorem dX6_digest_54 : decode cX6_digest 54 = .ok (.invokevirtual 73, 3) := by decide +kernel
theorem dX6_digest_57 : decode cX6_digest 57 = .ok (.i2l, 1) := by decide +kernel
theorem dX6_digest_58 : decode cX6_digest 58 = .ok (.ladd, 1) := by decide +kernel
theorem dX6_digest_59 : decode cX6_digest 59 = .ok (.lstore_n 1, 1) := by decide +kernel
theorem dX6_digest_60 : decode cX6_digest 60 = .ok (.iinc 3 1, 3) := by decide +kernel
theorem dX6_digest_63 : decode cX6_digest 63 = .ok (.goto (-36), 3) := by decide +kernel
theorem dX6_digest_66 : decode cX6_digest 66 = .ok (.iconst 0, 1) := by decide +kernel
theorem dX6_digest_67 : decode cX6_digest 67 = .ok (.istore_n 3, 1) := by decide +kernel
theorem dX6_digest_68 : decode cX6_digest 68 = .ok (.iload_n 3, 1) := by decide +kernel
theorem dX6_digest_69 : decode cX6_digest 69 = .ok (.aload_n 0, 1) := by decide +kernel
theorem dX6_digest_70 : decode cX6_digest 70 = .ok (.getfield 66, 3) := by decide +kernel
theorem dX6_digest_73 : decode cX6_digest 73 = .ok (.if_icmp .ge 59, 3) := by decide +kernel
theorem dX6_digest_76 : decode cX6_digest 76 = .ok (.lload_n 1, 1) := by decide +kernel
theorem dX6_digest_77 : decode cX6_digest 77 = .ok (.ldc2_w 150, 3) := by decide +kernel
theorem dX6_digest_80 : decode cX6_digest 80 = .ok (.lmul, 1) := by decide +kernel
theorem dX6_digest_81 : decode cX6_digest 81 = .ok (.aload_n 0, 1) := by decide +kernel
theorem dX6_digest_82 : decode cX6_digest 82 = .ok (.getfield 25, 3) := by decide +kernel
theorem dX6_digest_85 : decode cX6_digest 85 = .ok (.iload_n 3, 1) := by decide +kernel
theorem dX6_digest_86 : decode cX6_digest 86 = .ok (.iaload, 1) := by decide +kernel
theorem dX6_digest_87 : decode cX6_digest 87 = .ok (.i2l, 1) := by decide +kernel
theorem dX6_digest_88 : decode cX6_digest 88 = .ok (.ladd, 1) := by decide +kernel
theorem dX6_digest_89 : decode cX6_digest 89 = .ok (.ldc2_w 150, 3) := by decide +kernel
theorem dX6_digest_92 : decode cX6_digest 92 = .ok (.lmul, 1) := by decide +kernel
theorem dX6_digest_93 : decode cX6_digest 93 = .ok (.aload_n 0, 1) := by decide +kernel
theorem dX6_digest_94 : decode cX6_digest 94 = .ok (.getfield 31, 3) := by decide +kernel
theorem dX6_digest_97 : decode cX6_digest 97 = .ok (.iload_n 3, 1) := by decide +kernel
theorem dX6_digest_98 : decode cX6_digest 98 = .ok (.iaload, 1) := by decide +kernel
theorem dX6_digest_99 : decode cX6_digest 99 = .ok (.i2l, 1) := by decide +kernel
theorem dX6_digest_100 : decode cX6_digest 100 = .ok (.ladd, 1) := by decide +kernel
theorem dX6_digest_101 : decode cX6_digest 101 = .ok (.lstore_n 1, 1) := by decide +kernel
theorem dX6_digest_102 : decode cX6_digest 102 = .ok (.aload_n 0, 1) := by decide +kernel
theorem dX6_digest_103 : decode cX6_digest 103 = .ok (.getfield 25, 3) := by decide +kernel
theorem dX6_digest_106 : decode cX6_digest 106 = .ok (.iload_n 3, 1) := by decide +kernel
theorem dX6_digest_107 : decode cX6_digest 107 = .ok (.iaload, 1) := by decide +kernel
theorem dX6_digest_108 : decode cX6_digest 108 = .ok (.iconst 1, 1) := by decide +kernel
theorem dX6_digest_109 : decode cX6_digest 109 = .ok (.if_icmp .ne 17, 3) := by decide +kernel
theorem dX6_digest_112 : decode cX6_digest 112 = .ok (.lload_n 1, 1) := by decide +kernel
theorem dX6_digest_113 : decode cX6_digest 113 = .ok (.ldc2_w 150, 3) := by decide +kernel
theorem dX6_digest_116 : decode cX6_digest 116 = .ok (.lmul, 1) := by decide +kernel
theorem dX6_digest_117 : decode cX6_digest 117 = .ok (.aload_n 0, 1) := by decide +kernel
theorem dX6_digest_118 : decode cX6_digest 118 = .ok (.getfield 28, 3) := by decide +kernel
theorem dX6_digest_121 : decode cX6_digest 121 = .ok (.iload_n 3, 1) := by decide +kernel
theorem dX6_digest_122 : decode cX6_digest 122 = .ok (.iaload, 1) := by decide +kernel
theorem dX6_digest_123 : decode cX6_digest 123 = .ok (.i2l, 1) := by decide +kernel
theorem dX6_digest_124 : decode cX6_digest 124 = .ok (.ladd, 1) := by decide +kernel
theorem dX6_digest_125 : decode cX6_digest 125 = .ok (.lstore_n 1, 1) := by decide +kernel
theorem dX6_digest_126 : decode cX6_digest 126 = .ok (.iinc 3 1, 3) := by decide +kernel
theorem dX6_digest_129 : decode cX6_digest 129 = .ok (.goto (-61), 3) := by decide +kernel
theorem dX6_digest_132 : decode cX6_digest 132 = .ok (.lload_n 1, 1) := by decide +kernel
theorem dX6_digest_133 : decode cX6_digest 133 = .ok (.ldc2_w 150, 3) := by decide +kernel
theorem dX6_digest_136 : decode cX6_digest 136 = .ok (.lmul, 1) := by decide +kernel
theorem dX6_digest_137 : decode cX6_digest 137 = .ok (.aload_n 0, 1) := by decide +kernel
theorem dX6_digest_138 : decode cX6_digest 138 = .ok (.getfield 102, 3) := by decide +kernel
theorem dX6_digest_141 : decode cX6_digest 141 = .ok (.i2l, 1) := by decide +kernel
theorem dX6_digest_142 : decode cX6_digest 142 = .ok (.ladd, 1) := by decide +kernel
theorem dX6_digest_143 : decode cX6_digest 143 = .ok (.lreturn, 1) := by decide +kernel
