theorem dL_below_0 : decode cL_below 0 = .ok (.iload_n 0, 1) := by decide +kernel
theorem dL_below_1 : decode cL_below 1 = .ok (.ldc 7, 2) := by decide +kernel
theorem dL_below_3 : decode cL_below 3 = .ok (.iand, 1) := by decide +kernel
theorem dL_below_4 : decode cL_below 4 = .ok (.iload_n 1, 1) := by decide +kernel
theorem dL_below_5 : decode cL_below 5 = .ok (.irem, 1) := by decide +kernel
theorem dL_below_6 : decode cL_below 6 = .ok (.ireturn, 1) := by decide +kernel
theorem dL_cell_0 : decode cL_cell 0 = .ok (.iload_n 1, 1) := by decide +kernel
theorem dL_cell_1 : decode cL_cell 1 = .ok (.aload_n 0, 1) := by decide +kernel
theorem dL_cell_2 : decode cL_cell 2 = .ok (.arraylength, 1) := by decide +kernel
theorem dL_cell_3 : decode cL_cell 3 = .ok (.if_icmp .ge 9, 3) := by decide +kernel
theorem dL_cell_6 : decode cL_cell 6 = .ok (.aload_n 0, 1) := by decide +kernel
theorem dL_cell_7 : decode cL_cell 7 = .ok (.iload_n 1, 1) := by decide +kernel
theorem dL_cell_8 : decode cL_cell 8 = .ok (.iaload, 1) := by decide +kernel
theorem dL_cell_9 : decode cL_cell 9 = .ok (.goto 9, 3) := by decide +kernel
theorem dL_cell_12 : decode cL_cell 12 = .ok (.ldc 8, 2) := by decide +kernel
theorem dL_cell_14 : decode cL_cell 14 = .ok (.iload_n 1, 1) := by decide +kernel
theorem dL_cell_15 : decode cL_cell 15 = .ok (.iconst 3, 1) := by decide +kernel
theorem dL_cell_16 : decode cL_cell 16 = .ok (.iadd, 1) := by decide +kernel
theorem dL_cell_17 : decode cL_cell 17 = .ok (.imul, 1) := by decide +kernel
theorem dL_cell_18 : decode cL_cell 18 = .ok (.ireturn, 1) := by decide +kernel
theorem dL_isPath_0 : decode cL_isPath 0 = .ok (.iload_n 0, 1) := by decide +kernel
theorem dL_isPath_1 : decode cL_isPath 1 = .ok (.istore 9, 2) := by decide +kernel
theorem dL_isPath_3 : decode cL_isPath 3 = .ok (.iconst 0, 1) := by decide +kernel
theorem dL_isPath_4 : decode cL_isPath 4 = .ok (.istore 10, 2) := by decide +kernel
theorem dL_isPath_6 : decode cL_isPath 6 = .ok (.iload_n 1, 1) := by decide +kernel
theorem dL_isPath_7 : decode cL_isPath 7 = .ok (.iconst 1, 1) := by decide +kernel
theorem dL_isPath_8 : decode cL_isPath 8 = .ok (.isub, 1) := by decide +kernel
theorem dL_isPath_9 : decode cL_isPath 9 = .ok (.istore 11, 2) := by decide +kernel
theorem dL_isPath_11 : decode cL_isPath 11 = .ok (.iload 11, 2) := by decide +kernel
theorem dL_isPath_13 : decode cL_isPath 13 = .ok (.ifCond .lt 52, 3) := by decide +kernel
theorem dL_isPath_16 : decode cL_isPath 16 = .ok (.aload 8, 2) := by decide +kernel
theorem dL_isPath_18 : decode cL_isPath 18 = .ok (.iload 11, 2) := by decide +kernel
theorem dL_isPath_20 : decode cL_isPath 20 = .ok (.iload 9, 2) := by decide +kernel
theorem dL_isPath_22 : decode cL_isPath 22 = .ok (.iload_n 2, 1) := by decide +kernel
theorem dL_isPath_23 : decode cL_isPath 23 = .ok (.irem, 1) := by decide +kernel
theorem dL_isPath_24 : decode cL_isPath 24 = .ok (.iastore, 1) := by decide +kernel
theorem dL_isPath_25 : decode cL_isPath 25 = .ok (.iload 9, 2) := by decide +kernel
theorem dL_isPath_27 : decode cL_isPath 27 = .ok (.iload_n 2, 1) := by decide +kernel
theorem dL_isPath_28 : decode cL_isPath 28 = .ok (.idiv, 1) := by decide +kernel
theorem dL_isPath_29 : decode cL_isPath 29 = .ok (.istore 9, 2) := by decide +kernel
theorem dL_isPath_31 : decode cL_isPath 31 = .ok (.iload 10, 2) := by decide +kernel
theorem dL_isPath_33 : decode cL_isPath 33 = .ok (.aload 8, 2) := by decide +kernel
theorem dL_isPath_35 : decode cL_isPath 35 = .ok (.iload 11, 2) := by decide +kernel
theorem dL_isPath_37 : decode cL_isPath 37 = .ok (.iaload, 1) := by decide +kernel
theorem dL_isPath_38 : decode cL_isPath 38 = .ok (.ishr, 1) := by decide +kernel
theorem dL_isPath_39 : decode cL_isPath 39 = .ok (.iconst 1, 1) := by decide +kernel
theorem dL_isPath_40 : decode cL_isPath 40 = .ok (.iand, 1) := by decide +kernel
theorem dL_isPath_41 : decode cL_isPath 41 = .ok (.iconst 1, 1) := by decide +kernel
theorem dL_isPath_42 : decode cL_isPath 42 = .ok (.if_icmp .ne 5, 3) := by decide +kernel
theorem dL_isPath_45 : decode cL_isPath 45 = .ok (.iconst 0, 1) := by decide +kernel
theorem dL_isPath_46 : decode cL_isPath 46 = .ok (.ireturn, 1) := by decide +kernel
theorem dL_isPath_47 : decode cL_isPath 47 = .ok (.iload 10, 2) := by decide +kernel
theorem dL_isPath_49 : decode cL_isPath 49 = .ok (.iconst 1, 1) := by decide +kernel
theorem dL_isPath_50 : decode cL_isPath 50 = .ok (.aload 8, 2) := by decide +kernel
theorem dL_isPath_52 : decode cL_isPath 52 = .ok (.iload 11, 2) := by decide +kernel
theorem dL_isPath_54 : decode cL_isPath 54 = .ok (.iaload, 1) := by decide +kernel
theorem dL_isPath_55 : decode cL_isPath 55 = .ok (.ishl, 1) := by decide +kernel
theorem dL_isPath_56 : decode cL_isPath 56 = .ok (.ior, 1) := by decide +kernel
theorem dL_isPath_57 : decode cL_isPath 57 = .ok (.istore 10, 2) := by decide +kernel
theorem dL_isPath_59 : decode cL_isPath 59 = .ok (.iinc 11 (-1), 3) := by decide +kernel
theorem dL_isPath_62 : decode cL_isPath 62 = .ok (.goto (-51), 3) := by decide +kernel
theorem dL_isPath_65 : decode cL_isPath 65 = .ok (.iload_n 3, 1) := by decide +kernel
theorem dL_isPath_66 : decode cL_isPath 66 = .ok (.aload 8, 2) := by decide +kernel
theorem dL_isPath_68 : decode cL_isPath 68 = .ok (.iconst 0, 1) := by decide +kernel
theorem dL_isPath_69 : decode cL_isPath 69 = .ok (.iaload, 1) := by decide +kernel
theorem dL_isPath_70 : decode cL_isPath 70 = .ok (.ishr, 1) := by decide +kernel
theorem dL_isPath_71 : decode cL_isPath 71 = .ok (.iconst 1, 1) := by decide +kernel
theorem dL_isPath_72 : decode cL_isPath 72 = .ok (.iand, 1) := by decide +kernel
theorem dL_isPath_73 : decode cL_isPath 73 = .ok (.ifCond .eq 15, 3) := by decide +kernel
theorem dL_isPath_76 : decode cL_isPath 76 = .ok (.aload 4, 2) := by decide +kernel
theorem dL_isPath_78 : decode cL_isPath 78 = .ok (.aload 8, 2) := by decide +kernel
theorem dL_isPath_80 : decode cL_isPath 80 = .ok (.iload_n 1, 1) := by decide +kernel
theorem dL_isPath_81 : decode cL_isPath 81 = .ok (.iconst 1, 1) := by decide +kernel
theorem dL_isPath_82 : decode cL_isPath 82 = .ok (.isub, 1) := by decide +kernel
theorem dL_isPath_83 : decode cL_isPath 83 = .ok (.iaload, 1) := by decide +kernel
theorem dL_isPath_84 : decode cL_isPath 84 = .ok (.iaload, 1) := by decide +kernel
theorem dL_isPath_85 : decode cL_isPath 85 = .ok (.ifCond .lt 5, 3) := by decide +kernel
theorem dL_isPath_88 : decode cL_isPath 88 = .ok (.iconst 0, 1) := by decide +kernel
theorem dL_isPath_89 : decode cL_isPath 89 = .ok (.ireturn, 1) := by decide +kernel
theorem dL_isPath_90 : decode cL_isPath 90 = .ok (.iconst 1, 1) := by decide +kernel
theorem dL_isPath_91 : decode cL_isPath 91 = .ok (.istore 11, 2) := by decide +kernel
theorem dL_isPath_93 : decode cL_isPath 93 = .ok (.iload 11, 2) := by decide +kernel
theorem dL_isPath_95 : decode cL_isPath 95 = .ok (.iload_n 1, 1) := by decide +kernel
theorem dL_isPath_96 : decode cL_isPath 96 = .ok (.if_icmp .ge 54, 3) := by decide +kernel
theorem dL_isPath_99 : decode cL_isPath 99 = .ok (.aload 4, 2) := by decide +kernel
theorem dL_isPath_101 : decode cL_isPath 101 = .ok (.aload 8, 2) := by decide +kernel
theorem dL_isPath_103 : decode cL_isPath 103 = .ok (.iload 11, 2) := by decide +kernel
theorem dL_isPath_105 : decode cL_isPath 105 = .ok (.iconst 1, 1) := by decide +kernel
theorem dL_isPath_106 : decode cL_isPath 106 = .ok (.isub, 1) := by decide +kernel
theorem dL_isPath_107 : decode cL_isPath 107 = .ok (.iaload, 1) := by decide +kernel
theorem dL_isPath_108 : decode cL_isPath 108 = .ok (.iaload, 1) := by decide +kernel
theorem dL_isPath_109 : decode cL_isPath 109 = .ok (.istore 12, 2) := by decide +kernel
theorem dL_isPath_111 : decode cL_isPath 111 = .ok (.iload 12, 2) := by decide +kernel
theorem dL_isPath_113 : decode cL_isPath 113 = .ok (.ifCond .lt 29, 3) := by decide +kernel
theorem dL_isPath_116 : decode cL_isPath 116 = .ok (.aload 5, 2) := by decide +kernel
theorem dL_isPath_118 : decode cL_isPath 118 = .ok (.iload 12, 2) := by decide +kernel
theorem dL_isPath_120 : decode cL_isPath 120 = .ok (.iaload, 1) := by decide +kernel
theorem dL_isPath_121 : decode cL_isPath 121 = .ok (.iload 6, 2) := by decide +kernel
theorem dL_isPath_123 : decode cL_isPath 123 = .ok (.if_icmp .ge 19, 3) := by decide +kernel
theorem dL_isPath_126 : decode cL_isPath 126 = .ok (.aload 7, 2) := by decide +kernel
theorem dL_isPath_128 : decode cL_isPath 128 = .ok (.iload 12, 2) := by decide +kernel
theorem dL_isPath_130 : decode cL_isPath 130 = .ok (.iaload, 1) := by decide +kernel
theorem dL_isPath_131 : decode cL_isPath 131 = .ok (.aload 8, 2) := by decide +kernel
theorem dL_isPath_133 : decode cL_isPath 133 = .ok (.iload 11, 2) := by decide +kernel
theorem dL_isPath_135 : decode cL_isPath 135 = .ok (.iaload, 1) := by decide +kernel
theorem dL_isPath_136 : decode cL_isPath 136 = .ok (.ishr, 1) := by decide +kernel
theorem dL_isPath_137 : decode cL_isPath 137 = .ok (.iconst 1, 1) := by decide +kernel
theorem dL_isPath_138 : decode cL_isPath 138 = .ok (.iand, 1) := by decide +kernel
theorem dL_isPath_139 : decode cL_isPath 139 = .ok (.ifCond .ne 5, 3) := by decide +kernel
theorem dL_isPath_142 : decode cL_isPath 142 = .ok (.iconst 0, 1) := by decide +kernel
theorem dL_isPath_143 : decode cL_isPath 143 = .ok (.ireturn, 1) := by decide +kernel
theorem dL_isPath_144 : decode cL_isPath 144 = .ok (.iinc 11 1, 3) := by decide +kernel
theorem dL_isPath_147 : decode cL_isPath 147 = .ok (.goto (-54), 3) := by decide +kernel
theorem dL_isPath_150 : decode cL_isPath 150 = .ok (.iconst 1, 1) := by decide +kernel
theorem dL_isPath_151 : decode cL_isPath 151 = .ok (.ireturn, 1) := by decide +kernel
theorem dL_bestPath_0 : decode cL_bestPath 0 = .ok (.iconst 1, 1) := by decide +kernel
theorem dL_bestPath_1 : decode cL_bestPath 1 = .ok (.istore 7, 2) := by decide +kernel
theorem dL_bestPath_3 : decode cL_bestPath 3 = .ok (.iconst 1, 1) := by decide +kernel
theorem dL_bestPath_4 : decode cL_bestPath 4 = .ok (.istore 8, 2) := by decide +kernel
theorem dL_bestPath_6 : decode cL_bestPath 6 = .ok (.iload 8, 2) := by decide +kernel
theorem dL_bestPath_8 : decode cL_bestPath 8 = .ok (.iload_n 0, 1) := by decide +kernel
theorem dL_bestPath_9 : decode cL_bestPath 9 = .ok (.if_icmp .gt 54, 3) := by decide +kernel
theorem dL_bestPath_12 : decode cL_bestPath 12 = .ok (.iload 7, 2) := by decide +kernel
theorem dL_bestPath_14 : decode cL_bestPath 14 = .ok (.iload_n 0, 1) := by decide +kernel
theorem dL_bestPath_15 : decode cL_bestPath 15 = .ok (.imul, 1) := by decide +kernel
theorem dL_bestPath_16 : decode cL_bestPath 16 = .ok (.istore 7, 2) := by decide +kernel
theorem dL_bestPath_18 : decode cL_bestPath 18 = .ok (.iconst 0, 1) := by decide +kernel
theorem dL_bestPath_19 : decode cL_bestPath 19 = .ok (.istore 9, 2) := by decide +kernel
theorem dL_bestPath_21 : decode cL_bestPath 21 = .ok (.iload 9, 2) := by decide +kernel
theorem dL_bestPath_23 : decode cL_bestPath 23 = .ok (.iload 7, 2) := by decide +kernel
theorem dL_bestPath_25 : decode cL_bestPath 25 = .ok (.if_icmp .ge 32, 3) := by decide +kernel
theorem dL_bestPath_28 : decode cL_bestPath 28 = .ok (.iload 9, 2) := by decide +kernel
theorem dL_bestPath_30 : decode cL_bestPath 30 = .ok (.iload 8, 2) := by decide +kernel
theorem dL_bestPath_32 : decode cL_bestPath 32 = .ok (.iload_n 0, 1) := by decide +kernel
theorem dL_bestPath_33 : decode cL_bestPath 33 = .ok (.iload_n 1, 1) := by decide +kernel
theorem dL_bestPath_34 : decode cL_bestPath 34 = .ok (.aload_n 2, 1) := by decide +kernel
theorem dL_bestPath_35 : decode cL_bestPath 35 = .ok (.aload_n 3, 1) := by decide +kernel
theorem dL_bestPath_36 : decode cL_bestPath 36 = .ok (.iload 4, 2) := by decide +kernel
theorem dL_bestPath_38 : decode cL_bestPath 38 = .ok (.aload 5, 2) := by decide +kernel
theorem dL_bestPath_40 : decode cL_bestPath 40 = .ok (.aload 6, 2) := by decide +kernel
theorem dL_bestPath_42 : decode cL_bestPath 42 = .ok (.invokestatic 9, 3) := by decide +kernel
theorem dL_bestPath_45 : decode cL_bestPath 45 = .ok (.ifCond .eq 6, 3) := by decide +kernel
theorem dL_bestPath_48 : decode cL_bestPath 48 = .ok (.iload 8, 2) := by decide +kernel
theorem dL_bestPath_50 : decode cL_bestPath 50 = .ok (.ireturn, 1) := by decide +kernel
theorem dL_bestPath_51 : decode cL_bestPath 51 = .ok (.iinc 9 1, 3) := by decide +kernel
theorem dL_bestPath_54 : decode cL_bestPath 54 = .ok (.goto (-33), 3) := by decide +kernel
theorem dL_bestPath_57 : decode cL_bestPath 57 = .ok (.iinc 8 1, 3) := by decide +kernel
theorem dL_bestPath_60 : decode cL_bestPath 60 = .ok (.goto (-54), 3) := by decide +kernel
theorem dL_bestPath_63 : decode cL_bestPath 63 = .ok (.iconst 0, 1) := by decide +kernel
theorem dL_bestPath_64 : decode cL_bestPath 64 = .ok (.ireturn, 1) := by decide +kernel
theorem dL_place_0 : decode cL_place 0 = .ok (.iload 7, 2) := by decide +kernel
theorem dL_place_2 : decode cL_place 2 = .ok (.istore 8, 2) := by decide +kernel
theorem dL_place_4 : decode cL_place 4 = .ok (.iload_n 1, 1) := by decide +kernel
theorem dL_place_5 : decode cL_place 5 = .ok (.newarray .int, 2) := by decide +kernel
theorem dL_place_7 : decode cL_place 7 = .ok (.astore 9, 2) := by decide +kernel
theorem dL_place_9 : decode cL_place 9 = .ok (.iconst 1, 1) := by decide +kernel
theorem dL_place_10 : decode cL_place 10 = .ok (.istore 10, 2) := by decide +kernel
theorem dL_place_12 : decode cL_place 12 = .ok (.iload 10, 2) := by decide +kernel
theorem dL_place_14 : decode cL_place 14 = .ok (.iload_n 1, 1) := by decide +kernel
theorem dL_place_15 : decode cL_place 15 = .ok (.if_icmp .ge 22, 3) := by decide +kernel
theorem dL_place_18 : decode cL_place 18 = .ok (.aload 9, 2) := by decide +kernel
theorem dL_place_20 : decode cL_place 20 = .ok (.iload 10, 2) := by decide +kernel
theorem dL_place_22 : decode cL_place 22 = .ok (.aload_n 3, 1) := by decide +kernel
theorem dL_place_23 : decode cL_place 23 = .ok (.aload_n 2, 1) := by decide +kernel
theorem dL_place_24 : decode cL_place 24 = .ok (.iload 10, 2) := by decide +kernel
theorem dL_place_26 : decode cL_place 26 = .ok (.iconst 1, 1) := by decide +kernel
theorem dL_place_27 : decode cL_place 27 = .ok (.isub, 1) := by decide +kernel
theorem dL_place_28 : decode cL_place 28 = .ok (.iaload, 1) := by decide +kernel
theorem dL_place_29 : decode cL_place 29 = .ok (.iaload, 1) := by decide +kernel
theorem dL_place_30 : decode cL_place 30 = .ok (.iastore, 1) := by decide +kernel
theorem dL_place_31 : decode cL_place 31 = .ok (.iinc 10 1, 3) := by decide +kernel
theorem dL_place_34 : decode cL_place 34 = .ok (.goto (-22), 3) := by decide +kernel
theorem dL_place_37 : decode cL_place 37 = .ok (.iconst 1, 1) := by decide +kernel
theorem dL_place_38 : decode cL_place 38 = .ok (.istore 10, 2) := by decide +kernel
theorem dL_place_40 : decode cL_place 40 = .ok (.iload 10, 2) := by decide +kernel
theorem dL_place_42 : decode cL_place 42 = .ok (.iload_n 1, 1) := by decide +kernel
theorem dL_place_43 : decode cL_place 43 = .ok (.if_icmp .ge 68, 3) := by decide +kernel
theorem dL_place_46 : decode cL_place 46 = .ok (.aload_n 3, 1) := by decide +kernel
theorem dL_place_47 : decode cL_place 47 = .ok (.aload_n 2, 1) := by decide +kernel
theorem dL_place_48 : decode cL_place 48 = .ok (.iload 10, 2) := by decide +kernel
theorem dL_place_50 : decode cL_place 50 = .ok (.iaload, 1) := by decide +kernel
theorem dL_place_51 : decode cL_place 51 = .ok (.aload 9, 2) := by decide +kernel
theorem dL_place_53 : decode cL_place 53 = .ok (.iload 10, 2) := by decide +kernel
theorem dL_place_55 : decode cL_place 55 = .ok (.iaload, 1) := by decide +kernel
theorem dL_place_56 : decode cL_place 56 = .ok (.iastore, 1) := by decide +kernel
theorem dL_place_57 : decode cL_place 57 = .ok (.aload 4, 2) := by decide +kernel
theorem dL_place_59 : decode cL_place 59 = .ok (.aload 9, 2) := by decide +kernel
theorem dL_place_61 : decode cL_place 61 = .ok (.iload 10, 2) := by decide +kernel
theorem dL_place_63 : decode cL_place 63 = .ok (.iaload, 1) := by decide +kernel
theorem dL_place_64 : decode cL_place 64 = .ok (.aload_n 2, 1) := by decide +kernel
theorem dL_place_65 : decode cL_place 65 = .ok (.iload 10, 2) := by decide +kernel
theorem dL_place_67 : decode cL_place 67 = .ok (.iaload, 1) := by decide +kernel
theorem dL_place_68 : decode cL_place 68 = .ok (.iastore, 1) := by decide +kernel
theorem dL_place_69 : decode cL_place 69 = .ok (.aload 5, 2) := by decide +kernel
theorem dL_place_71 : decode cL_place 71 = .ok (.aload 9, 2) := by decide +kernel
theorem dL_place_73 : decode cL_place 73 = .ok (.iload 10, 2) := by decide +kernel
theorem dL_place_75 : decode cL_place 75 = .ok (.iaload, 1) := by decide +kernel
theorem dL_place_76 : decode cL_place 76 = .ok (.dup2, 1) := by decide +kernel
theorem dL_place_77 : decode cL_place 77 = .ok (.iaload, 1) := by decide +kernel
theorem dL_place_78 : decode cL_place 78 = .ok (.iconst 1, 1) := by decide +kernel
theorem dL_place_79 : decode cL_place 79 = .ok (.iadd, 1) := by decide +kernel
theorem dL_place_80 : decode cL_place 80 = .ok (.iastore, 1) := by decide +kernel
theorem dL_place_81 : decode cL_place 81 = .ok (.aload 6, 2) := by decide +kernel
theorem dL_place_83 : decode cL_place 83 = .ok (.iload 8, 2) := by decide +kernel
theorem dL_place_85 : decode cL_place 85 = .ok (.aload 9, 2) := by decide +kernel
theorem dL_place_87 : decode cL_place 87 = .ok (.iload 10, 2) := by decide +kernel
theorem dL_place_89 : decode cL_place 89 = .ok (.iaload, 1) := by decide +kernel
theorem dL_place_90 : decode cL_place 90 = .ok (.iastore, 1) := by decide +kernel
theorem dL_place_91 : decode cL_place 91 = .ok (.aload 6, 2) := by decide +kernel
theorem dL_place_93 : decode cL_place 93 = .ok (.iload 8, 2) := by decide +kernel
theorem dL_place_95 : decode cL_place 95 = .ok (.iconst 1, 1) := by decide +kernel
theorem dL_place_96 : decode cL_place 96 = .ok (.iadd, 1) := by decide +kernel
theorem dL_place_97 : decode cL_place 97 = .ok (.aload_n 2, 1) := by decide +kernel
theorem dL_place_98 : decode cL_place 98 = .ok (.iload 10, 2) := by decide +kernel
theorem dL_place_100 : decode cL_place 100 = .ok (.iaload, 1) := by decide +kernel
theorem dL_place_101 : decode cL_place 101 = .ok (.iastore, 1) := by decide +kernel
theorem dL_place_102 : decode cL_place 102 = .ok (.iinc 8 2, 3) := by decide +kernel
theorem dL_place_105 : decode cL_place 105 = .ok (.iinc 10 1, 3) := by decide +kernel
theorem dL_place_108 : decode cL_place 108 = .ok (.goto (-68), 3) := by decide +kernel
theorem dL_place_111 : decode cL_place 111 = .ok (.aload_n 3, 1) := by decide +kernel
theorem dL_place_112 : decode cL_place 112 = .ok (.aload_n 2, 1) := by decide +kernel
theorem dL_place_113 : decode cL_place 113 = .ok (.iconst 0, 1) := by decide +kernel
theorem dL_place_114 : decode cL_place 114 = .ok (.iaload, 1) := by decide +kernel
theorem dL_place_115 : decode cL_place 115 = .ok (.iload_n 0, 1) := by decide +kernel
theorem dL_place_116 : decode cL_place 116 = .ok (.iastore, 1) := by decide +kernel
theorem dL_place_117 : decode cL_place 117 = .ok (.aload 4, 2) := by decide +kernel
theorem dL_place_119 : decode cL_place 119 = .ok (.iload_n 0, 1) := by decide +kernel
theorem dL_place_120 : decode cL_place 120 = .ok (.aload_n 2, 1) := by decide +kernel
theorem dL_place_121 : decode cL_place 121 = .ok (.iconst 0, 1) := by decide +kernel
theorem dL_place_122 : decode cL_place 122 = .ok (.iaload, 1) := by decide +kernel
theorem dL_place_123 : decode cL_place 123 = .ok (.iastore, 1) := by decide +kernel
theorem dL_place_124 : decode cL_place 124 = .ok (.iload 8, 2) := by decide +kernel
theorem dL_place_126 : decode cL_place 126 = .ok (.ireturn, 1) := by decide +kernel
theorem dL_isSame_0 : decode cL_isSame 0 = .ok (.aload_n 0, 1) := by decide +kernel
theorem dL_isSame_1 : decode cL_isSame 1 = .ok (.invokevirtual 15, 3) := by decide +kernel
theorem dL_isSame_4 : decode cL_isSame 4 = .ok (.iload_n 1, 1) := by decide +kernel
theorem dL_isSame_5 : decode cL_isSame 5 = .ok (.if_icmp .ne 14, 3) := by decide +kernel
theorem dL_isSame_8 : decode cL_isSame 8 = .ok (.aload_n 0, 1) := by decide +kernel
theorem dL_isSame_9 : decode cL_isSame 9 = .ok (.invokevirtual 21, 3) := by decide +kernel
theorem dL_isSame_12 : decode cL_isSame 12 = .ok (.iload 5, 2) := by decide +kernel
theorem dL_isSame_14 : decode cL_isSame 14 = .ok (.iconst 2, 1) := by decide +kernel
theorem dL_isSame_15 : decode cL_isSame 15 = .ok (.idiv, 1) := by decide +kernel
theorem dL_isSame_16 : decode cL_isSame 16 = .ok (.if_icmp .eq 5, 3) := by decide +kernel
theorem dL_isSame_19 : decode cL_isSame 19 = .ok (.iconst 0, 1) := by decide +kernel
theorem dL_isSame_20 : decode cL_isSame 20 = .ok (.ireturn, 1) := by decide +kernel
theorem dL_isSame_21 : decode cL_isSame 21 = .ok (.iconst 0, 1) := by decide +kernel
theorem dL_isSame_22 : decode cL_isSame 22 = .ok (.istore 6, 2) := by decide +kernel
theorem dL_isSame_24 : decode cL_isSame 24 = .ok (.iload 6, 2) := by decide +kernel
theorem dL_isSame_26 : decode cL_isSame 26 = .ok (.iload_n 1, 1) := by decide +kernel
theorem dL_isSame_27 : decode cL_isSame 27 = .ok (.if_icmp .ge 77, 3) := by decide +kernel
