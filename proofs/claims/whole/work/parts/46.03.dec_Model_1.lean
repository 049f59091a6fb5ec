theorem d_Model_module_134 : decode b_Model_module 134 = .ok (.iload_n 2, 1) := by decide +kernel
theorem d_Model_module_135 : decode b_Model_module 135 = .ok (.iconst 2, 1) := by decide +kernel
theorem d_Model_module_136 : decode b_Model_module 136 = .ok (.irem, 1) := by decide +kernel
theorem d_Model_module_137 : decode b_Model_module 137 = .ok (.ifCond .ne 7, 3) := by decide +kernel
theorem d_Model_module_140 : decode b_Model_module 140 = .ok (.iconst 1, 1) := by decide +kernel
theorem d_Model_module_141 : decode b_Model_module 141 = .ok (.goto 4, 3) := by decide +kernel
theorem d_Model_module_144 : decode b_Model_module 144 = .ok (.iconst 0, 1) := by decide +kernel
theorem d_Model_module_145 : decode b_Model_module 145 = .ok (.ireturn, 1) := by decide +kernel
theorem d_Model_module_146 : decode b_Model_module 146 = .ok (.iload_n 1, 1) := by decide +kernel
theorem d_Model_module_147 : decode b_Model_module 147 = .ok (.bipush 8, 2) := by decide +kernel
theorem d_Model_module_149 : decode b_Model_module 149 = .ok (.if_icmp .ne 15, 3) := by decide +kernel
theorem d_Model_module_152 : decode b_Model_module 152 = .ok (.iload_n 2, 1) := by decide +kernel
theorem d_Model_module_153 : decode b_Model_module 153 = .ok (.iload_n 3, 1) := by decide +kernel
theorem d_Model_module_154 : decode b_Model_module 154 = .ok (.bipush 8, 2) := by decide +kernel
theorem d_Model_module_156 : decode b_Model_module 156 = .ok (.isub, 1) := by decide +kernel
theorem d_Model_module_157 : decode b_Model_module 157 = .ok (.if_icmp .ne 7, 3) := by decide +kernel
theorem d_Model_module_160 : decode b_Model_module 160 = .ok (.iconst 1, 1) := by decide +kernel
theorem d_Model_module_161 : decode b_Model_module 161 = .ok (.goto 4, 3) := by decide +kernel
theorem d_Model_module_164 : decode b_Model_module 164 = .ok (.iconst (-1), 1) := by decide +kernel
theorem d_Model_module_165 : decode b_Model_module 165 = .ok (.ireturn, 1) := by decide +kernel
theorem d_Model_blockX_0 : decode b_Model_blockX 0 = .ok (.iload_n 3, 1) := by decide +kernel
theorem d_Model_blockX_1 : decode b_Model_blockX 1 = .ok (.ifCond .ne 7, 3) := by decide +kernel
theorem d_Model_blockX_4 : decode b_Model_blockX 4 = .ok (.iload_n 1, 1) := by decide +kernel
theorem d_Model_blockX_5 : decode b_Model_blockX 5 = .ok (.goto 30, 3) := by decide +kernel
theorem d_Model_blockX_8 : decode b_Model_blockX 8 = .ok (.iload_n 3, 1) := by decide +kernel
theorem d_Model_blockX_9 : decode b_Model_blockX 9 = .ok (.iconst 1, 1) := by decide +kernel
theorem d_Model_blockX_10 : decode b_Model_blockX 10 = .ok (.if_icmp .ne 11, 3) := by decide +kernel
theorem d_Model_blockX_13 : decode b_Model_blockX 13 = .ok (.iload_n 0, 1) := by decide +kernel
theorem d_Model_blockX_14 : decode b_Model_blockX 14 = .ok (.iconst 1, 1) := by decide +kernel
theorem d_Model_blockX_15 : decode b_Model_blockX 15 = .ok (.isub, 1) := by decide +kernel
theorem d_Model_blockX_16 : decode b_Model_blockX 16 = .ok (.iload_n 2, 1) := by decide +kernel
theorem d_Model_blockX_17 : decode b_Model_blockX 17 = .ok (.isub, 1) := by decide +kernel
theorem d_Model_blockX_18 : decode b_Model_blockX 18 = .ok (.goto 17, 3) := by decide +kernel
theorem d_Model_blockX_21 : decode b_Model_blockX 21 = .ok (.iload_n 3, 1) := by decide +kernel
theorem d_Model_blockX_22 : decode b_Model_blockX 22 = .ok (.iconst 2, 1) := by decide +kernel
theorem d_Model_blockX_23 : decode b_Model_blockX 23 = .ok (.if_icmp .ne 11, 3) := by decide +kernel
theorem d_Model_blockX_26 : decode b_Model_blockX 26 = .ok (.iload_n 0, 1) := by decide +kernel
theorem d_Model_blockX_27 : decode b_Model_blockX 27 = .ok (.iconst 1, 1) := by decide +kernel
theorem d_Model_blockX_28 : decode b_Model_blockX 28 = .ok (.isub, 1) := by decide +kernel
theorem d_Model_blockX_29 : decode b_Model_blockX 29 = .ok (.iload_n 1, 1) := by decide +kernel
theorem d_Model_blockX_30 : decode b_Model_blockX 30 = .ok (.isub, 1) := by decide +kernel
theorem d_Model_blockX_31 : decode b_Model_blockX 31 = .ok (.goto 4, 3) := by decide +kernel
theorem d_Model_blockX_34 : decode b_Model_blockX 34 = .ok (.iload_n 2, 1) := by decide +kernel
theorem d_Model_blockX_35 : decode b_Model_blockX 35 = .ok (.ireturn, 1) := by decide +kernel
theorem d_Model_blockY_0 : decode b_Model_blockY 0 = .ok (.iload_n 3, 1) := by decide +kernel
theorem d_Model_blockY_1 : decode b_Model_blockY 1 = .ok (.ifCond .ne 7, 3) := by decide +kernel
theorem d_Model_blockY_4 : decode b_Model_blockY 4 = .ok (.iload_n 2, 1) := by decide +kernel
theorem d_Model_blockY_5 : decode b_Model_blockY 5 = .ok (.goto 30, 3) := by decide +kernel
theorem d_Model_blockY_8 : decode b_Model_blockY 8 = .ok (.iload_n 3, 1) := by decide +kernel
theorem d_Model_blockY_9 : decode b_Model_blockY 9 = .ok (.iconst 1, 1) := by decide +kernel
theorem d_Model_blockY_10 : decode b_Model_blockY 10 = .ok (.if_icmp .ne 7, 3) := by decide +kernel
theorem d_Model_blockY_13 : decode b_Model_blockY 13 = .ok (.iload_n 1, 1) := by decide +kernel
theorem d_Model_blockY_14 : decode b_Model_blockY 14 = .ok (.goto 21, 3) := by decide +kernel
theorem d_Model_blockY_17 : decode b_Model_blockY 17 = .ok (.iload_n 3, 1) := by decide +kernel
theorem d_Model_blockY_18 : decode b_Model_blockY 18 = .ok (.iconst 2, 1) := by decide +kernel
theorem d_Model_blockY_19 : decode b_Model_blockY 19 = .ok (.if_icmp .ne 11, 3) := by decide +kernel
theorem d_Model_blockY_22 : decode b_Model_blockY 22 = .ok (.iload_n 0, 1) := by decide +kernel
theorem d_Model_blockY_23 : decode b_Model_blockY 23 = .ok (.iconst 1, 1) := by decide +kernel
theorem d_Model_blockY_24 : decode b_Model_blockY 24 = .ok (.isub, 1) := by decide +kernel
theorem d_Model_blockY_25 : decode b_Model_blockY 25 = .ok (.iload_n 2, 1) := by decide +kernel
theorem d_Model_blockY_26 : decode b_Model_blockY 26 = .ok (.isub, 1) := by decide +kernel
theorem d_Model_blockY_27 : decode b_Model_blockY 27 = .ok (.goto 8, 3) := by decide +kernel
theorem d_Model_blockY_30 : decode b_Model_blockY 30 = .ok (.iload_n 0, 1) := by decide +kernel
theorem d_Model_blockY_31 : decode b_Model_blockY 31 = .ok (.iconst 1, 1) := by decide +kernel
theorem d_Model_blockY_32 : decode b_Model_blockY 32 = .ok (.isub, 1) := by decide +kernel
theorem d_Model_blockY_33 : decode b_Model_blockY 33 = .ok (.iload_n 1, 1) := by decide +kernel
theorem d_Model_blockY_34 : decode b_Model_blockY 34 = .ok (.isub, 1) := by decide +kernel
theorem d_Model_blockY_35 : decode b_Model_blockY 35 = .ok (.ireturn, 1) := by decide +kernel
theorem d_Model_isPlace_0 : decode b_Model_isPlace 0 = .ok (.iload_n 1, 1) := by decide +kernel
theorem d_Model_isPlace_1 : decode b_Model_isPlace 1 = .ok (.ifCond .lt 31, 3) := by decide +kernel
theorem d_Model_isPlace_4 : decode b_Model_isPlace 4 = .ok (.iload_n 1, 1) := by decide +kernel
theorem d_Model_isPlace_5 : decode b_Model_isPlace 5 = .ok (.aload_n 0, 1) := by decide +kernel
theorem d_Model_isPlace_6 : decode b_Model_isPlace 6 = .ok (.getfield 7, 3) := by decide +kernel
theorem d_Model_isPlace_9 : decode b_Model_isPlace 9 = .ok (.iload_n 3, 1) := by decide +kernel
theorem d_Model_isPlace_10 : decode b_Model_isPlace 10 = .ok (.isub, 1) := by decide +kernel
theorem d_Model_isPlace_11 : decode b_Model_isPlace 11 = .ok (.if_icmp .gt 21, 3) := by decide +kernel
theorem d_Model_isPlace_14 : decode b_Model_isPlace 14 = .ok (.iload_n 2, 1) := by decide +kernel
theorem d_Model_isPlace_15 : decode b_Model_isPlace 15 = .ok (.ifCond .lt 17, 3) := by decide +kernel
theorem d_Model_isPlace_18 : decode b_Model_isPlace 18 = .ok (.iload_n 2, 1) := by decide +kernel
theorem d_Model_isPlace_19 : decode b_Model_isPlace 19 = .ok (.aload_n 0, 1) := by decide +kernel
theorem d_Model_isPlace_20 : decode b_Model_isPlace 20 = .ok (.getfield 13, 3) := by decide +kernel
theorem d_Model_isPlace_23 : decode b_Model_isPlace 23 = .ok (.iload_n 3, 1) := by decide +kernel
theorem d_Model_isPlace_24 : decode b_Model_isPlace 24 = .ok (.isub, 1) := by decide +kernel
theorem d_Model_isPlace_25 : decode b_Model_isPlace 25 = .ok (.if_icmp .gt 7, 3) := by decide +kernel
theorem d_Model_isPlace_28 : decode b_Model_isPlace 28 = .ok (.iconst 1, 1) := by decide +kernel
theorem d_Model_isPlace_29 : decode b_Model_isPlace 29 = .ok (.goto 4, 3) := by decide +kernel
theorem d_Model_isPlace_32 : decode b_Model_isPlace 32 = .ok (.iconst 0, 1) := by decide +kernel
theorem d_Model_isPlace_33 : decode b_Model_isPlace 33 = .ok (.ireturn, 1) := by decide +kernel
theorem d_Model_differ_0 : decode b_Model_differ 0 = .ok (.iconst 0, 1) := by decide +kernel
theorem d_Model_differ_1 : decode b_Model_differ 1 = .ok (.istore 6, 2) := by decide +kernel
theorem d_Model_differ_3 : decode b_Model_differ 3 = .ok (.iload_n 2, 1) := by decide +kernel
theorem d_Model_differ_4 : decode b_Model_differ 4 = .ok (.istore 7, 2) := by decide +kernel
theorem d_Model_differ_6 : decode b_Model_differ 6 = .ok (.iload 7, 2) := by decide +kernel
theorem d_Model_differ_8 : decode b_Model_differ 8 = .ok (.iload_n 2, 1) := by decide +kernel
theorem d_Model_differ_9 : decode b_Model_differ 9 = .ok (.iload_n 3, 1) := by decide +kernel
theorem d_Model_differ_10 : decode b_Model_differ 10 = .ok (.iadd, 1) := by decide +kernel
theorem d_Model_differ_11 : decode b_Model_differ 11 = .ok (.if_icmp .ge 81, 3) := by decide +kernel
theorem d_Model_differ_14 : decode b_Model_differ 14 = .ok (.iload_n 1, 1) := by decide +kernel
theorem d_Model_differ_15 : decode b_Model_differ 15 = .ok (.istore 8, 2) := by decide +kernel
theorem d_Model_differ_17 : decode b_Model_differ 17 = .ok (.iload 8, 2) := by decide +kernel
theorem d_Model_differ_19 : decode b_Model_differ 19 = .ok (.iload_n 1, 1) := by decide +kernel
theorem d_Model_differ_20 : decode b_Model_differ 20 = .ok (.iload_n 3, 1) := by decide +kernel
theorem d_Model_differ_21 : decode b_Model_differ 21 = .ok (.iadd, 1) := by decide +kernel
theorem d_Model_differ_22 : decode b_Model_differ 22 = .ok (.if_icmp .ge 64, 3) := by decide +kernel
theorem d_Model_differ_25 : decode b_Model_differ 25 = .ok (.iload 6, 2) := by decide +kernel
theorem d_Model_differ_27 : decode b_Model_differ 27 = .ok (.aload_n 0, 1) := by decide +kernel
theorem d_Model_differ_28 : decode b_Model_differ 28 = .ok (.iload 8, 2) := by decide +kernel
theorem d_Model_differ_30 : decode b_Model_differ 30 = .ok (.iload 7, 2) := by decide +kernel
theorem d_Model_differ_32 : decode b_Model_differ 32 = .ok (.invokevirtual 51, 3) := by decide +kernel
theorem d_Model_differ_35 : decode b_Model_differ 35 = .ok (.iload 4, 2) := by decide +kernel
theorem d_Model_differ_37 : decode b_Model_differ 37 = .ok (.if_icmp .ne 7, 3) := by decide +kernel
theorem d_Model_differ_40 : decode b_Model_differ 40 = .ok (.iconst 0, 1) := by decide +kernel
theorem d_Model_differ_41 : decode b_Model_differ 41 = .ok (.goto 4, 3) := by decide +kernel
theorem d_Model_differ_44 : decode b_Model_differ 44 = .ok (.iconst 1, 1) := by decide +kernel
theorem d_Model_differ_45 : decode b_Model_differ 45 = .ok (.iadd, 1) := by decide +kernel
theorem d_Model_differ_46 : decode b_Model_differ 46 = .ok (.istore 6, 2) := by decide +kernel
theorem d_Model_differ_48 : decode b_Model_differ 48 = .ok (.aload_n 0, 1) := by decide +kernel
theorem d_Model_differ_49 : decode b_Model_differ 49 = .ok (.getfield 17, 3) := by decide +kernel
theorem d_Model_differ_52 : decode b_Model_differ 52 = .ok (.sipush 512, 3) := by decide +kernel
theorem d_Model_differ_55 : decode b_Model_differ 55 = .ok (.iload 7, 2) := by decide +kernel
theorem d_Model_differ_57 : decode b_Model_differ 57 = .ok (.imul, 1) := by decide +kernel
theorem d_Model_differ_58 : decode b_Model_differ 58 = .ok (.iload 8, 2) := by decide +kernel
theorem d_Model_differ_60 : decode b_Model_differ 60 = .ok (.iadd, 1) := by decide +kernel
theorem d_Model_differ_61 : decode b_Model_differ 61 = .ok (.iload 5, 2) := by decide +kernel
theorem d_Model_differ_63 : decode b_Model_differ 63 = .ok (.ifCond .eq 8, 3) := by decide +kernel
theorem d_Model_differ_66 : decode b_Model_differ 66 = .ok (.iload 4, 2) := by decide +kernel
theorem d_Model_differ_68 : decode b_Model_differ 68 = .ok (.goto 11, 3) := by decide +kernel
theorem d_Model_differ_71 : decode b_Model_differ 71 = .ok (.aload_n 0, 1) := by decide +kernel
theorem d_Model_differ_72 : decode b_Model_differ 72 = .ok (.iload 8, 2) := by decide +kernel
theorem d_Model_differ_74 : decode b_Model_differ 74 = .ok (.iload 7, 2) := by decide +kernel
theorem d_Model_differ_76 : decode b_Model_differ 76 = .ok (.invokevirtual 51, 3) := by decide +kernel
theorem d_Model_differ_79 : decode b_Model_differ 79 = .ok (.bastore, 1) := by decide +kernel
theorem d_Model_differ_80 : decode b_Model_differ 80 = .ok (.iinc 8 1, 3) := by decide +kernel
theorem d_Model_differ_83 : decode b_Model_differ 83 = .ok (.goto (-66), 3) := by decide +kernel
theorem d_Model_differ_86 : decode b_Model_differ 86 = .ok (.iinc 7 1, 3) := by decide +kernel
theorem d_Model_differ_89 : decode b_Model_differ 89 = .ok (.goto (-83), 3) := by decide +kernel
theorem d_Model_differ_92 : decode b_Model_differ 92 = .ok (.iload 6, 2) := by decide +kernel
theorem d_Model_differ_94 : decode b_Model_differ 94 = .ok (.ireturn, 1) := by decide +kernel
theorem d_Model_draw_0 : decode b_Model_draw 0 = .ok (.iload_n 3, 1) := by decide +kernel
theorem d_Model_draw_1 : decode b_Model_draw 1 = .ok (.iconst 3, 1) := by decide +kernel
theorem d_Model_draw_2 : decode b_Model_draw 2 = .ok (.iand, 1) := by decide +kernel
theorem d_Model_draw_3 : decode b_Model_draw 3 = .ok (.istore 4, 2) := by decide +kernel
theorem d_Model_draw_5 : decode b_Model_draw 5 = .ok (.iload_n 3, 1) := by decide +kernel
theorem d_Model_draw_6 : decode b_Model_draw 6 = .ok (.iconst 2, 1) := by decide +kernel
theorem d_Model_draw_7 : decode b_Model_draw 7 = .ok (.ishr, 1) := by decide +kernel
theorem d_Model_draw_8 : decode b_Model_draw 8 = .ok (.bipush 63, 2) := by decide +kernel
theorem d_Model_draw_10 : decode b_Model_draw 10 = .ok (.iand, 1) := by decide +kernel
theorem d_Model_draw_11 : decode b_Model_draw 11 = .ok (.istore 5, 2) := by decide +kernel
theorem d_Model_draw_13 : decode b_Model_draw 13 = .ok (.iload_n 3, 1) := by decide +kernel
theorem d_Model_draw_14 : decode b_Model_draw 14 = .ok (.bipush 8, 2) := by decide +kernel
theorem d_Model_draw_16 : decode b_Model_draw 16 = .ok (.ishr, 1) := by decide +kernel
theorem d_Model_draw_17 : decode b_Model_draw 17 = .ok (.bipush 31, 2) := by decide +kernel
theorem d_Model_draw_19 : decode b_Model_draw 19 = .ok (.iand, 1) := by decide +kernel
theorem d_Model_draw_20 : decode b_Model_draw 20 = .ok (.istore 6, 2) := by decide +kernel
theorem d_Model_draw_22 : decode b_Model_draw 22 = .ok (.aload_n 0, 1) := by decide +kernel
theorem d_Model_draw_23 : decode b_Model_draw 23 = .ok (.iload_n 3, 1) := by decide +kernel
theorem d_Model_draw_24 : decode b_Model_draw 24 = .ok (.ifCond .lt 36, 3) := by decide +kernel
theorem d_Model_draw_27 : decode b_Model_draw 27 = .ok (.iload_n 3, 1) := by decide +kernel
theorem d_Model_draw_28 : decode b_Model_draw 28 = .ok (.sipush 8191, 3) := by decide +kernel
theorem d_Model_draw_31 : decode b_Model_draw 31 = .ok (.if_icmp .gt 29, 3) := by decide +kernel
theorem d_Model_draw_34 : decode b_Model_draw 34 = .ok (.iload 6, 2) := by decide +kernel
theorem d_Model_draw_36 : decode b_Model_draw 36 = .ok (.iconst 1, 1) := by decide +kernel
theorem d_Model_draw_37 : decode b_Model_draw 37 = .ok (.if_icmp .lt 23, 3) := by decide +kernel
theorem d_Model_draw_40 : decode b_Model_draw 40 = .ok (.iload 6, 2) := by decide +kernel
theorem d_Model_draw_42 : decode b_Model_draw 42 = .ok (.bipush 16, 2) := by decide +kernel
theorem d_Model_draw_44 : decode b_Model_draw 44 = .ok (.if_icmp .gt 16, 3) := by decide +kernel
theorem d_Model_draw_47 : decode b_Model_draw 47 = .ok (.iload 5, 2) := by decide +kernel
theorem d_Model_draw_49 : decode b_Model_draw 49 = .ok (.iconst 1, 1) := by decide +kernel
theorem d_Model_draw_50 : decode b_Model_draw 50 = .ok (.if_icmp .lt 10, 3) := by decide +kernel
theorem d_Model_draw_53 : decode b_Model_draw 53 = .ok (.iload 5, 2) := by decide +kernel
theorem d_Model_draw_55 : decode b_Model_draw 55 = .ok (.bipush 40, 2) := by decide +kernel
theorem d_Model_draw_57 : decode b_Model_draw 57 = .ok (.if_icmp .le 7, 3) := by decide +kernel
theorem d_Model_draw_60 : decode b_Model_draw 60 = .ok (.iconst 1, 1) := by decide +kernel
theorem d_Model_draw_61 : decode b_Model_draw 61 = .ok (.goto 4, 3) := by decide +kernel
theorem d_Model_draw_64 : decode b_Model_draw 64 = .ok (.iconst 0, 1) := by decide +kernel
theorem d_Model_draw_65 : decode b_Model_draw 65 = .ok (.putfield 35, 3) := by decide +kernel
theorem d_Model_draw_68 : decode b_Model_draw 68 = .ok (.aload_n 0, 1) := by decide +kernel
theorem d_Model_draw_69 : decode b_Model_draw 69 = .ok (.getfield 35, 3) := by decide +kernel
theorem d_Model_draw_72 : decode b_Model_draw 72 = .ok (.ifCond .gt 20, 3) := by decide +kernel
theorem d_Model_draw_75 : decode b_Model_draw 75 = .ok (.aload_n 0, 1) := by decide +kernel
theorem d_Model_draw_76 : decode b_Model_draw 76 = .ok (.iload_n 1, 1) := by decide +kernel
theorem d_Model_draw_77 : decode b_Model_draw 77 = .ok (.iload_n 2, 1) := by decide +kernel
theorem d_Model_draw_78 : decode b_Model_draw 78 = .ok (.iload 6, 2) := by decide +kernel
theorem d_Model_draw_80 : decode b_Model_draw 80 = .ok (.iload 5, 2) := by decide +kernel
theorem d_Model_draw_82 : decode b_Model_draw 82 = .ok (.invokestatic 59, 3) := by decide +kernel
theorem d_Model_draw_85 : decode b_Model_draw 85 = .ok (.imul, 1) := by decide +kernel
theorem d_Model_draw_86 : decode b_Model_draw 86 = .ok (.invokevirtual 67, 3) := by decide +kernel
theorem d_Model_draw_89 : decode b_Model_draw 89 = .ok (.ifCond .ne 10, 3) := by decide +kernel
theorem d_Model_draw_92 : decode b_Model_draw 92 = .ok (.aload_n 0, 1) := by decide +kernel
theorem d_Model_draw_93 : decode b_Model_draw 93 = .ok (.iconst 1, 1) := by decide +kernel
theorem d_Model_draw_94 : decode b_Model_draw 94 = .ok (.putfield 35, 3) := by decide +kernel
theorem d_Model_draw_97 : decode b_Model_draw 97 = .ok (.iconst 0, 1) := by decide +kernel
theorem d_Model_draw_98 : decode b_Model_draw 98 = .ok (.ireturn, 1) := by decide +kernel
theorem d_Model_draw_99 : decode b_Model_draw 99 = .ok (.iload 5, 2) := by decide +kernel
theorem d_Model_draw_101 : decode b_Model_draw 101 = .ok (.invokestatic 59, 3) := by decide +kernel
theorem d_Model_draw_104 : decode b_Model_draw 104 = .ok (.istore 7, 2) := by decide +kernel
theorem d_Model_draw_106 : decode b_Model_draw 106 = .ok (.iconst 0, 1) := by decide +kernel
theorem d_Model_draw_107 : decode b_Model_draw 107 = .ok (.istore 8, 2) := by decide +kernel
theorem d_Model_draw_109 : decode b_Model_draw 109 = .ok (.iconst 0, 1) := by decide +kernel
theorem d_Model_draw_110 : decode b_Model_draw 110 = .ok (.istore 9, 2) := by decide +kernel
theorem d_Model_draw_112 : decode b_Model_draw 112 = .ok (.iload 9, 2) := by decide +kernel
theorem d_Model_draw_114 : decode b_Model_draw 114 = .ok (.iload 7, 2) := by decide +kernel
theorem d_Model_draw_116 : decode b_Model_draw 116 = .ok (.if_icmp .ge 100, 3) := by decide +kernel
theorem d_Model_draw_119 : decode b_Model_draw 119 = .ok (.iconst 0, 1) := by decide +kernel
theorem d_Model_draw_120 : decode b_Model_draw 120 = .ok (.istore 10, 2) := by decide +kernel
theorem d_Model_draw_122 : decode b_Model_draw 122 = .ok (.iload 10, 2) := by decide +kernel
theorem d_Model_draw_124 : decode b_Model_draw 124 = .ok (.iload 7, 2) := by decide +kernel
theorem d_Model_draw_126 : decode b_Model_draw 126 = .ok (.if_icmp .ge 84, 3) := by decide +kernel
theorem d_Model_draw_129 : decode b_Model_draw 129 = .ok (.iload 5, 2) := by decide +kernel
theorem d_Model_draw_131 : decode b_Model_draw 131 = .ok (.iload 10, 2) := by decide +kernel
theorem d_Model_draw_133 : decode b_Model_draw 133 = .ok (.iload 9, 2) := by decide +kernel
theorem d_Model_draw_135 : decode b_Model_draw 135 = .ok (.invokestatic 71, 3) := by decide +kernel
theorem d_Model_draw_138 : decode b_Model_draw 138 = .ok (.iconst (-1), 1) := by decide +kernel
theorem d_Model_draw_139 : decode b_Model_draw 139 = .ok (.if_icmp .eq 65, 3) := by decide +kernel
theorem d_Model_draw_142 : decode b_Model_draw 142 = .ok (.iload 8, 2) := by decide +kernel
theorem d_Model_draw_144 : decode b_Model_draw 144 = .ok (.aload_n 0, 1) := by decide +kernel
theorem d_Model_draw_145 : decode b_Model_draw 145 = .ok (.iload_n 1, 1) := by decide +kernel
theorem d_Model_draw_146 : decode b_Model_draw 146 = .ok (.iload 6, 2) := by decide +kernel
theorem d_Model_draw_148 : decode b_Model_draw 148 = .ok (.iload 7, 2) := by decide +kernel
theorem d_Model_draw_150 : decode b_Model_draw 150 = .ok (.iload 10, 2) := by decide +kernel
theorem d_Model_draw_152 : decode b_Model_draw 152 = .ok (.iload 9, 2) := by decide +kernel
theorem d_Model_draw_154 : decode b_Model_draw 154 = .ok (.iload 4, 2) := by decide +kernel
theorem d_Model_draw_156 : decode b_Model_draw 156 = .ok (.invokestatic 75, 3) := by decide +kernel
theorem d_Model_draw_159 : decode b_Model_draw 159 = .ok (.imul, 1) := by decide +kernel
theorem d_Model_draw_160 : decode b_Model_draw 160 = .ok (.iadd, 1) := by decide +kernel
theorem d_Model_draw_161 : decode b_Model_draw 161 = .ok (.iload_n 2, 1) := by decide +kernel
theorem d_Model_draw_162 : decode b_Model_draw 162 = .ok (.iload 6, 2) := by decide +kernel
theorem d_Model_draw_164 : decode b_Model_draw 164 = .ok (.iload 7, 2) := by decide +kernel
theorem d_Model_draw_166 : decode b_Model_draw 166 = .ok (.iload 10, 2) := by decide +kernel
theorem d_Model_draw_168 : decode b_Model_draw 168 = .ok (.iload 9, 2) := by decide +kernel
theorem d_Model_draw_170 : decode b_Model_draw 170 = .ok (.iload 4, 2) := by decide +kernel
theorem d_Model_draw_172 : decode b_Model_draw 172 = .ok (.invokestatic 78, 3) := by decide +kernel
theorem d_Model_draw_175 : decode b_Model_draw 175 = .ok (.imul, 1) := by decide +kernel
theorem d_Model_draw_176 : decode b_Model_draw 176 = .ok (.iadd, 1) := by decide +kernel
theorem d_Model_draw_177 : decode b_Model_draw 177 = .ok (.iload 6, 2) := by decide +kernel
theorem d_Model_draw_179 : decode b_Model_draw 179 = .ok (.iload 5, 2) := by decide +kernel
theorem d_Model_draw_181 : decode b_Model_draw 181 = .ok (.iload 10, 2) := by decide +kernel
theorem d_Model_draw_183 : decode b_Model_draw 183 = .ok (.iload 9, 2) := by decide +kernel
theorem d_Model_draw_185 : decode b_Model_draw 185 = .ok (.invokestatic 71, 3) := by decide +kernel
theorem d_Model_draw_188 : decode b_Model_draw 188 = .ok (.iconst 1, 1) := by decide +kernel
theorem d_Model_draw_189 : decode b_Model_draw 189 = .ok (.if_icmp .ne 7, 3) := by decide +kernel
theorem d_Model_draw_192 : decode b_Model_draw 192 = .ok (.iconst 1, 1) := by decide +kernel
theorem d_Model_draw_193 : decode b_Model_draw 193 = .ok (.goto 4, 3) := by decide +kernel
theorem d_Model_draw_196 : decode b_Model_draw 196 = .ok (.iconst 0, 1) := by decide +kernel
theorem d_Model_draw_197 : decode b_Model_draw 197 = .ok (.iconst 1, 1) := by decide +kernel
theorem d_Model_draw_198 : decode b_Model_draw 198 = .ok (.invokevirtual 81, 3) := by decide +kernel
theorem d_Model_draw_201 : decode b_Model_draw 201 = .ok (.iadd, 1) := by decide +kernel
theorem d_Model_draw_202 : decode b_Model_draw 202 = .ok (.istore 8, 2) := by decide +kernel
theorem d_Model_draw_204 : decode b_Model_draw 204 = .ok (.iinc 10 1, 3) := by decide +kernel
theorem d_Model_draw_207 : decode b_Model_draw 207 = .ok (.goto (-85), 3) := by decide +kernel
theorem d_Model_draw_210 : decode b_Model_draw 210 = .ok (.iinc 9 1, 3) := by decide +kernel
theorem d_Model_draw_213 : decode b_Model_draw 213 = .ok (.goto (-101), 3) := by decide +kernel
theorem d_Model_draw_216 : decode b_Model_draw 216 = .ok (.iload 8, 2) := by decide +kernel
theorem d_Model_draw_218 : decode b_Model_draw 218 = .ok (.ireturn, 1) := by decide +kernel
theorem d_Model_add_0 : decode b_Model_add 0 = .ok (.iconst 0, 1) := by decide +kernel
theorem d_Model_add_1 : decode b_Model_add 1 = .ok (.istore_n 1, 1) := by decide +kernel
theorem d_Model_add_2 : decode b_Model_add 2 = .ok (.iload_n 1, 1) := by decide +kernel
theorem d_Model_add_3 : decode b_Model_add 3 = .ok (.aload_n 0, 1) := by decide +kernel
theorem d_Model_add_4 : decode b_Model_add 4 = .ok (.getfield 13, 3) := by decide +kernel
theorem d_Model_add_7 : decode b_Model_add 7 = .ok (.if_icmp .ge 76, 3) := by decide +kernel
theorem d_Model_add_10 : decode b_Model_add 10 = .ok (.iconst 0, 1) := by decide +kernel
theorem d_Model_add_11 : decode b_Model_add 11 = .ok (.istore_n 2, 1) := by decide +kernel
theorem d_Model_add_12 : decode b_Model_add 12 = .ok (.iconst 0, 1) := by decide +kernel
theorem d_Model_add_13 : decode b_Model_add 13 = .ok (.istore_n 3, 1) := by decide +kernel
theorem d_Model_add_14 : decode b_Model_add 14 = .ok (.iload_n 3, 1) := by decide +kernel
theorem d_Model_add_15 : decode b_Model_add 15 = .ok (.aload_n 0, 1) := by decide +kernel
theorem d_Model_add_16 : decode b_Model_add 16 = .ok (.getfield 7, 3) := by decide +kernel
theorem d_Model_add_19 : decode b_Model_add 19 = .ok (.if_icmp .ge 58, 3) := by decide +kernel
theorem d_Model_add_22 : decode b_Model_add 22 = .ok (.iload_n 2, 1) := by decide +kernel
theorem d_Model_add_23 : decode b_Model_add 23 = .ok (.aload_n 0, 1) := by decide +kernel
theorem d_Model_add_24 : decode b_Model_add 24 = .ok (.iload_n 3, 1) := by decide +kernel
theorem d_Model_add_25 : decode b_Model_add 25 = .ok (.iload_n 1, 1) := by decide +kernel
theorem d_Model_add_26 : decode b_Model_add 26 = .ok (.invokevirtual 51, 3) := by decide +kernel
theorem d_Model_add_29 : decode b_Model_add 29 = .ok (.ifCond .eq 7, 3) := by decide +kernel
theorem d_Model_add_32 : decode b_Model_add 32 = .ok (.iconst 1, 1) := by decide +kernel
theorem d_Model_add_33 : decode b_Model_add 33 = .ok (.goto 4, 3) := by decide +kernel
theorem d_Model_add_36 : decode b_Model_add 36 = .ok (.iconst 0, 1) := by decide +kernel
theorem d_Model_add_37 : decode b_Model_add 37 = .ok (.iadd, 1) := by decide +kernel
theorem d_Model_add_38 : decode b_Model_add 38 = .ok (.istore_n 2, 1) := by decide +kernel
theorem d_Model_add_39 : decode b_Model_add 39 = .ok (.aload_n 0, 1) := by decide +kernel
theorem d_Model_add_40 : decode b_Model_add 40 = .ok (.getfield 22, 3) := by decide +kernel
theorem d_Model_add_43 : decode b_Model_add 43 = .ok (.sipush 513, 3) := by decide +kernel
theorem d_Model_add_46 : decode b_Model_add 46 = .ok (.iload_n 1, 1) := by decide +kernel
theorem d_Model_add_47 : decode b_Model_add 47 = .ok (.iconst 1, 1) := by decide +kernel
theorem d_Model_add_48 : decode b_Model_add 48 = .ok (.iadd, 1) := by decide +kernel
theorem d_Model_add_49 : decode b_Model_add 49 = .ok (.imul, 1) := by decide +kernel
theorem d_Model_add_50 : decode b_Model_add 50 = .ok (.iload_n 3, 1) := by decide +kernel
theorem d_Model_add_51 : decode b_Model_add 51 = .ok (.iadd, 1) := by decide +kernel
theorem d_Model_add_52 : decode b_Model_add 52 = .ok (.iconst 1, 1) := by decide +kernel
theorem d_Model_add_53 : decode b_Model_add 53 = .ok (.iadd, 1) := by decide +kernel
theorem d_Model_add_54 : decode b_Model_add 54 = .ok (.aload_n 0, 1) := by decide +kernel
theorem d_Model_add_55 : decode b_Model_add 55 = .ok (.getfield 22, 3) := by decide +kernel
theorem d_Model_add_58 : decode b_Model_add 58 = .ok (.sipush 513, 3) := by decide +kernel
theorem d_Model_add_61 : decode b_Model_add 61 = .ok (.iload_n 1, 1) := by decide +kernel
theorem d_Model_add_62 : decode b_Model_add 62 = .ok (.imul, 1) := by decide +kernel
theorem d_Model_add_63 : decode b_Model_add 63 = .ok (.iload_n 3, 1) := by decide +kernel
theorem d_Model_add_64 : decode b_Model_add 64 = .ok (.iadd, 1) := by decide +kernel
theorem d_Model_add_65 : decode b_Model_add 65 = .ok (.iconst 1, 1) := by decide +kernel
theorem d_Model_add_66 : decode b_Model_add 66 = .ok (.iadd, 1) := by decide +kernel
theorem d_Model_add_67 : decode b_Model_add 67 = .ok (.iaload, 1) := by decide +kernel
theorem d_Model_add_68 : decode b_Model_add 68 = .ok (.iload_n 2, 1) := by decide +kernel
theorem d_Model_add_69 : decode b_Model_add 69 = .ok (.iadd, 1) := by decide +kernel
theorem d_Model_add_70 : decode b_Model_add 70 = .ok (.iastore, 1) := by decide +kernel
theorem d_Model_add_71 : decode b_Model_add 71 = .ok (.iinc 3 1, 3) := by decide +kernel
theorem d_Model_add_74 : decode b_Model_add 74 = .ok (.goto (-60), 3) := by decide +kernel
theorem d_Model_add_77 : decode b_Model_add 77 = .ok (.iinc 1 1, 3) := by decide +kernel
theorem d_Model_add_80 : decode b_Model_add 80 = .ok (.goto (-78), 3) := by decide +kernel
theorem d_Model_add_83 : decode b_Model_add 83 = .ok (.return_, 1) := by decide +kernel
theorem d_Model_list_0 : decode b_Model_list 0 = .ok (.iload_n 1, 1) := by decide +kernel
theorem d_Model_list_1 : decode b_Model_list 1 = .ok (.invokestatic 59, 3) := by decide +kernel
theorem d_Model_list_4 : decode b_Model_list 4 = .ok (.istore_n 2, 1) := by decide +kernel
theorem d_Model_list_5 : decode b_Model_list 5 = .ok (.aload_n 0, 1) := by decide +kernel
theorem d_Model_list_6 : decode b_Model_list 6 = .ok (.iconst 0, 1) := by decide +kernel
theorem d_Model_list_7 : decode b_Model_list 7 = .ok (.putfield 85, 3) := by decide +kernel
theorem d_Model_list_10 : decode b_Model_list 10 = .ok (.iconst 0, 1) := by decide +kernel
theorem d_Model_list_11 : decode b_Model_list 11 = .ok (.istore_n 3, 1) := by decide +kernel
theorem d_Model_list_12 : decode b_Model_list 12 = .ok (.iload_n 3, 1) := by decide +kernel
theorem d_Model_list_13 : decode b_Model_list 13 = .ok (.iload_n 2, 1) := by decide +kernel
theorem d_Model_list_14 : decode b_Model_list 14 = .ok (.if_icmp .ge 150, 3) := by decide +kernel
theorem d_Model_list_17 : decode b_Model_list 17 = .ok (.iconst 0, 1) := by decide +kernel
theorem d_Model_list_18 : decode b_Model_list 18 = .ok (.istore 4, 2) := by decide +kernel
theorem d_Model_list_20 : decode b_Model_list 20 = .ok (.iload 4, 2) := by decide +kernel
theorem d_Model_list_22 : decode b_Model_list 22 = .ok (.iload_n 2, 1) := by decide +kernel
theorem d_Model_list_23 : decode b_Model_list 23 = .ok (.if_icmp .ge 135, 3) := by decide +kernel
theorem d_Model_list_26 : decode b_Model_list 26 = .ok (.iload_n 1, 1) := by decide +kernel
theorem d_Model_list_27 : decode b_Model_list 27 = .ok (.iload 4, 2) := by decide +kernel
theorem d_Model_list_29 : decode b_Model_list 29 = .ok (.iload_n 3, 1) := by decide +kernel
theorem d_Model_list_30 : decode b_Model_list 30 = .ok (.invokestatic 71, 3) := by decide +kernel
theorem d_Model_list_33 : decode b_Model_list 33 = .ok (.istore 5, 2) := by decide +kernel
theorem d_Model_list_35 : decode b_Model_list 35 = .ok (.iload 5, 2) := by decide +kernel
theorem d_Model_list_37 : decode b_Model_list 37 = .ok (.iconst (-1), 1) := by decide +kernel
theorem d_Model_list_38 : decode b_Model_list 38 = .ok (.if_icmp .eq 42, 3) := by decide +kernel
theorem d_Model_list_41 : decode b_Model_list 41 = .ok (.iload 4, 2) := by decide +kernel
theorem d_Model_list_43 : decode b_Model_list 43 = .ok (.ifCond .le 37, 3) := by decide +kernel
theorem d_Model_list_46 : decode b_Model_list 46 = .ok (.iload_n 1, 1) := by decide +kernel
theorem d_Model_list_47 : decode b_Model_list 47 = .ok (.iload 4, 2) := by decide +kernel
theorem d_Model_list_49 : decode b_Model_list 49 = .ok (.iconst 1, 1) := by decide +kernel
theorem d_Model_list_50 : decode b_Model_list 50 = .ok (.isub, 1) := by decide +kernel
theorem d_Model_list_51 : decode b_Model_list 51 = .ok (.iload_n 3, 1) := by decide +kernel
theorem d_Model_list_52 : decode b_Model_list 52 = .ok (.invokestatic 71, 3) := by decide +kernel
theorem d_Model_list_55 : decode b_Model_list 55 = .ok (.iload 5, 2) := by decide +kernel
theorem d_Model_list_57 : decode b_Model_list 57 = .ok (.if_icmp .ne 23, 3) := by decide +kernel
theorem d_Model_list_60 : decode b_Model_list 60 = .ok (.aload_n 0, 1) := by decide +kernel
theorem d_Model_list_61 : decode b_Model_list 61 = .ok (.getfield 26, 3) := by decide +kernel
theorem d_Model_list_64 : decode b_Model_list 64 = .ok (.iconst 4, 1) := by decide +kernel
theorem d_Model_list_65 : decode b_Model_list 65 = .ok (.aload_n 0, 1) := by decide +kernel
theorem d_Model_list_66 : decode b_Model_list 66 = .ok (.getfield 85, 3) := by decide +kernel
theorem d_Model_list_69 : decode b_Model_list 69 = .ok (.imul, 1) := by decide +kernel
theorem d_Model_list_70 : decode b_Model_list 70 = .ok (.iconst 2, 1) := by decide +kernel
theorem d_Model_list_71 : decode b_Model_list 71 = .ok (.isub, 1) := by decide +kernel
theorem d_Model_list_72 : decode b_Model_list 72 = .ok (.dup2, 1) := by decide +kernel
theorem d_Model_list_73 : decode b_Model_list 73 = .ok (.iaload, 1) := by decide +kernel
theorem d_Model_list_74 : decode b_Model_list 74 = .ok (.iconst 1, 1) := by decide +kernel
theorem d_Model_list_75 : decode b_Model_list 75 = .ok (.iadd, 1) := by decide +kernel
theorem d_Model_list_76 : decode b_Model_list 76 = .ok (.iastore, 1) := by decide +kernel
theorem d_Model_list_77 : decode b_Model_list 77 = .ok (.goto 75, 3) := by decide +kernel
theorem d_Model_list_80 : decode b_Model_list 80 = .ok (.iload 5, 2) := by decide +kernel
theorem d_Model_list_82 : decode b_Model_list 82 = .ok (.iconst (-1), 1) := by decide +kernel
theorem d_Model_list_83 : decode b_Model_list 83 = .ok (.if_icmp .eq 69, 3) := by decide +kernel
theorem d_Model_list_86 : decode b_Model_list 86 = .ok (.aload_n 0, 1) := by decide +kernel
theorem d_Model_list_87 : decode b_Model_list 87 = .ok (.getfield 26, 3) := by decide +kernel
theorem d_Model_list_90 : decode b_Model_list 90 = .ok (.iconst 4, 1) := by decide +kernel
theorem d_Model_list_91 : decode b_Model_list 91 = .ok (.aload_n 0, 1) := by decide +kernel
theorem d_Model_list_92 : decode b_Model_list 92 = .ok (.getfield 85, 3) := by decide +kernel
theorem d_Model_list_95 : decode b_Model_list 95 = .ok (.imul, 1) := by decide +kernel
theorem d_Model_list_96 : decode b_Model_list 96 = .ok (.iload 4, 2) := by decide +kernel
theorem d_Model_list_98 : decode b_Model_list 98 = .ok (.iastore, 1) := by decide +kernel
theorem d_Model_list_99 : decode b_Model_list 99 = .ok (.aload_n 0, 1) := by decide +kernel
theorem d_Model_list_100 : decode b_Model_list 100 = .ok (.getfield 26, 3) := by decide +kernel
theorem d_Model_list_103 : decode b_Model_list 103 = .ok (.iconst 4, 1) := by decide +kernel
theorem d_Model_list_104 : decode b_Model_list 104 = .ok (.aload_n 0, 1) := by decide +kernel
theorem d_Model_list_105 : decode b_Model_list 105 = .ok (.getfield 85, 3) := by decide +kernel
theorem d_Model_list_108 : decode b_Model_list 108 = .ok (.imul, 1) := by decide +kernel
theorem d_Model_list_109 : decode b_Model_list 109 = .ok (.iconst 1, 1) := by decide +kernel
theorem d_Model_list_110 : decode b_Model_list 110 = .ok (.iadd, 1) := by decide +kernel
theorem d_Model_list_111 : decode b_Model_list 111 = .ok (.iload_n 3, 1) := by decide +kernel
theorem d_Model_list_112 : decode b_Model_list 112 = .ok (.iastore, 1) := by decide +kernel
theorem d_Model_list_113 : decode b_Model_list 113 = .ok (.aload_n 0, 1) := by decide +kernel
theorem d_Model_list_114 : decode b_Model_list 114 = .ok (.getfield 26, 3) := by decide +kernel
theorem d_Model_list_117 : decode b_Model_list 117 = .ok (.iconst 4, 1) := by decide +kernel
theorem d_Model_list_118 : decode b_Model_list 118 = .ok (.aload_n 0, 1) := by decide +kernel
theorem d_Model_list_119 : decode b_Model_list 119 = .ok (.getfield 85, 3) := by decide +kernel
theorem d_Model_list_122 : decode b_Model_list 122 = .ok (.imul, 1) := by decide +kernel
theorem d_Model_list_123 : decode b_Model_list 123 = .ok (.iconst 2, 1) := by decide +kernel
theorem d_Model_list_124 : decode b_Model_list 124 = .ok (.iadd, 1) := by decide +kernel
theorem d_Model_list_125 : decode b_Model_list 125 = .ok (.iconst 1, 1) := by decide +kernel
theorem d_Model_list_126 : decode b_Model_list 126 = .ok (.iastore, 1) := by decide +kernel
theorem d_Model_list_127 : decode b_Model_list 127 = .ok (.aload_n 0, 1) := by decide +kernel
theorem d_Model_list_128 : decode b_Model_list 128 = .ok (.getfield 26, 3) := by decide +kernel
theorem d_Model_list_131 : decode b_Model_list 131 = .ok (.iconst 4, 1) := by decide +kernel
theorem d_Model_list_132 : decode b_Model_list 132 = .ok (.aload_n 0, 1) := by decide +kernel
theorem d_Model_list_133 : decode b_Model_list 133 = .ok (.getfield 85, 3) := by decide +kernel
theorem d_Model_list_136 : decode b_Model_list 136 = .ok (.imul, 1) := by decide +kernel
theorem d_Model_list_137 : decode b_Model_list 137 = .ok (.iconst 3, 1) := by decide +kernel
theorem d_Model_list_138 : decode b_Model_list 138 = .ok (.iadd, 1) := by decide +kernel
theorem d_Model_list_139 : decode b_Model_list 139 = .ok (.iload 5, 2) := by decide +kernel
theorem d_Model_list_141 : decode b_Model_list 141 = .ok (.iastore, 1) := by decide +kernel
theorem d_Model_list_142 : decode b_Model_list 142 = .ok (.aload_n 0, 1) := by decide +kernel
theorem d_Model_list_143 : decode b_Model_list 143 = .ok (.dup, 1) := by decide +kernel
theorem d_Model_list_144 : decode b_Model_list 144 = .ok (.getfield 85, 3) := by decide +kernel
