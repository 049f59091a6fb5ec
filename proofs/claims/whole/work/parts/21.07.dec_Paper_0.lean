theorem d_Paper_init_0 : decode b_Paper_init 0 = .ok (.aload_n 0, 1) := by decide +kernel
theorem d_Paper_init_1 : decode b_Paper_init 1 = .ok (.invokespecial 3, 3) := by decide +kernel
theorem d_Paper_init_4 : decode b_Paper_init 4 = .ok (.aload_n 0, 1) := by decide +kernel
theorem d_Paper_init_5 : decode b_Paper_init 5 = .ok (.bipush 64, 2) := by decide +kernel
theorem d_Paper_init_7 : decode b_Paper_init 7 = .ok (.putfield 9, 3) := by decide +kernel
theorem d_Paper_init_10 : decode b_Paper_init 10 = .ok (.aload_n 0, 1) := by decide +kernel
theorem d_Paper_init_11 : decode b_Paper_init 11 = .ok (.bipush 64, 2) := by decide +kernel
theorem d_Paper_init_13 : decode b_Paper_init 13 = .ok (.putfield 15, 3) := by decide +kernel
theorem d_Paper_init_16 : decode b_Paper_init 16 = .ok (.aload_n 0, 1) := by decide +kernel
theorem d_Paper_init_17 : decode b_Paper_init 17 = .ok (.sipush 4096, 3) := by decide +kernel
theorem d_Paper_init_20 : decode b_Paper_init 20 = .ok (.newarray .long, 2) := by decide +kernel
theorem d_Paper_init_22 : decode b_Paper_init 22 = .ok (.putfield 18, 3) := by decide +kernel
theorem d_Paper_init_25 : decode b_Paper_init 25 = .ok (.aload_n 0, 1) := by decide +kernel
theorem d_Paper_init_26 : decode b_Paper_init 26 = .ok (.ldc 22, 2) := by decide +kernel
theorem d_Paper_init_28 : decode b_Paper_init 28 = .ok (.newarray .int, 2) := by decide +kernel
theorem d_Paper_init_30 : decode b_Paper_init 30 = .ok (.putfield 23, 3) := by decide +kernel
theorem d_Paper_init_33 : decode b_Paper_init 33 = .ok (.return_, 1) := by decide +kernel
theorem d_Paper_renew_0 : decode b_Paper_renew 0 = .ok (.aload_n 0, 1) := by decide +kernel
theorem d_Paper_renew_1 : decode b_Paper_renew 1 = .ok (.iload_n 1, 1) := by decide +kernel
theorem d_Paper_renew_2 : decode b_Paper_renew 2 = .ok (.putfield 9, 3) := by decide +kernel
theorem d_Paper_renew_5 : decode b_Paper_renew 5 = .ok (.aload_n 0, 1) := by decide +kernel
theorem d_Paper_renew_6 : decode b_Paper_renew 6 = .ok (.iload_n 2, 1) := by decide +kernel
theorem d_Paper_renew_7 : decode b_Paper_renew 7 = .ok (.putfield 15, 3) := by decide +kernel
theorem d_Paper_renew_10 : decode b_Paper_renew 10 = .ok (.aload_n 0, 1) := by decide +kernel
theorem d_Paper_renew_11 : decode b_Paper_renew 11 = .ok (.iconst 0, 1) := by decide +kernel
theorem d_Paper_renew_12 : decode b_Paper_renew 12 = .ok (.putfield 27, 3) := by decide +kernel
theorem d_Paper_renew_15 : decode b_Paper_renew 15 = .ok (.aload_n 0, 1) := by decide +kernel
theorem d_Paper_renew_16 : decode b_Paper_renew 16 = .ok (.getfield 18, 3) := by decide +kernel
theorem d_Paper_renew_19 : decode b_Paper_renew 19 = .ok (.lconst 0, 1) := by decide +kernel
theorem d_Paper_renew_20 : decode b_Paper_renew 20 = .ok (.invokestatic 30, 3) := by decide +kernel
theorem d_Paper_renew_23 : decode b_Paper_renew 23 = .ok (.return_, 1) := by decide +kernel
theorem d_Paper_bits_0 : decode b_Paper_bits 0 = .ok (.iload_n 2, 1) := by decide +kernel
theorem d_Paper_bits_1 : decode b_Paper_bits 1 = .ok (.ifCond .lt 25, 3) := by decide +kernel
theorem d_Paper_bits_4 : decode b_Paper_bits 4 = .ok (.iload_n 2, 1) := by decide +kernel
theorem d_Paper_bits_5 : decode b_Paper_bits 5 = .ok (.aload_n 0, 1) := by decide +kernel
theorem d_Paper_bits_6 : decode b_Paper_bits 6 = .ok (.getfield 15, 3) := by decide +kernel
theorem d_Paper_bits_9 : decode b_Paper_bits 9 = .ok (.if_icmp .ge 17, 3) := by decide +kernel
theorem d_Paper_bits_12 : decode b_Paper_bits 12 = .ok (.iload_n 1, 1) := by decide +kernel
theorem d_Paper_bits_13 : decode b_Paper_bits 13 = .ok (.bipush (-64), 2) := by decide +kernel
theorem d_Paper_bits_15 : decode b_Paper_bits 15 = .ok (.if_icmp .le 11, 3) := by decide +kernel
theorem d_Paper_bits_18 : decode b_Paper_bits 18 = .ok (.iload_n 1, 1) := by decide +kernel
theorem d_Paper_bits_19 : decode b_Paper_bits 19 = .ok (.aload_n 0, 1) := by decide +kernel
theorem d_Paper_bits_20 : decode b_Paper_bits 20 = .ok (.getfield 9, 3) := by decide +kernel
theorem d_Paper_bits_23 : decode b_Paper_bits 23 = .ok (.if_icmp .lt 5, 3) := by decide +kernel
theorem d_Paper_bits_26 : decode b_Paper_bits 26 = .ok (.lconst 0, 1) := by decide +kernel
theorem d_Paper_bits_27 : decode b_Paper_bits 27 = .ok (.lreturn, 1) := by decide +kernel
theorem d_Paper_bits_28 : decode b_Paper_bits 28 = .ok (.iload_n 2, 1) := by decide +kernel
theorem d_Paper_bits_29 : decode b_Paper_bits 29 = .ok (.bipush 8, 2) := by decide +kernel
theorem d_Paper_bits_31 : decode b_Paper_bits 31 = .ok (.imul, 1) := by decide +kernel
theorem d_Paper_bits_32 : decode b_Paper_bits 32 = .ok (.istore_n 3, 1) := by decide +kernel
theorem d_Paper_bits_33 : decode b_Paper_bits 33 = .ok (.iload_n 1, 1) := by decide +kernel
theorem d_Paper_bits_34 : decode b_Paper_bits 34 = .ok (.ifCond .ge 13, 3) := by decide +kernel
theorem d_Paper_bits_37 : decode b_Paper_bits 37 = .ok (.aload_n 0, 1) := by decide +kernel
theorem d_Paper_bits_38 : decode b_Paper_bits 38 = .ok (.getfield 18, 3) := by decide +kernel
theorem d_Paper_bits_41 : decode b_Paper_bits 41 = .ok (.iload_n 3, 1) := by decide +kernel
theorem d_Paper_bits_42 : decode b_Paper_bits 42 = .ok (.laload, 1) := by decide +kernel
theorem d_Paper_bits_43 : decode b_Paper_bits 43 = .ok (.iload_n 1, 1) := by decide +kernel
theorem d_Paper_bits_44 : decode b_Paper_bits 44 = .ok (.ineg, 1) := by decide +kernel
theorem d_Paper_bits_45 : decode b_Paper_bits 45 = .ok (.lshl, 1) := by decide +kernel
theorem d_Paper_bits_46 : decode b_Paper_bits 46 = .ok (.lreturn, 1) := by decide +kernel
theorem d_Paper_bits_47 : decode b_Paper_bits 47 = .ok (.iload_n 1, 1) := by decide +kernel
theorem d_Paper_bits_48 : decode b_Paper_bits 48 = .ok (.bipush 6, 2) := by decide +kernel
theorem d_Paper_bits_50 : decode b_Paper_bits 50 = .ok (.ishr, 1) := by decide +kernel
theorem d_Paper_bits_51 : decode b_Paper_bits 51 = .ok (.istore 4, 2) := by decide +kernel
theorem d_Paper_bits_53 : decode b_Paper_bits 53 = .ok (.iload_n 1, 1) := by decide +kernel
theorem d_Paper_bits_54 : decode b_Paper_bits 54 = .ok (.bipush 63, 2) := by decide +kernel
theorem d_Paper_bits_56 : decode b_Paper_bits 56 = .ok (.iand, 1) := by decide +kernel
theorem d_Paper_bits_57 : decode b_Paper_bits 57 = .ok (.istore 5, 2) := by decide +kernel
theorem d_Paper_bits_59 : decode b_Paper_bits 59 = .ok (.aload_n 0, 1) := by decide +kernel
theorem d_Paper_bits_60 : decode b_Paper_bits 60 = .ok (.getfield 18, 3) := by decide +kernel
theorem d_Paper_bits_63 : decode b_Paper_bits 63 = .ok (.iload_n 3, 1) := by decide +kernel
theorem d_Paper_bits_64 : decode b_Paper_bits 64 = .ok (.iload 4, 2) := by decide +kernel
theorem d_Paper_bits_66 : decode b_Paper_bits 66 = .ok (.iadd, 1) := by decide +kernel
theorem d_Paper_bits_67 : decode b_Paper_bits 67 = .ok (.laload, 1) := by decide +kernel
theorem d_Paper_bits_68 : decode b_Paper_bits 68 = .ok (.iload 5, 2) := by decide +kernel
theorem d_Paper_bits_70 : decode b_Paper_bits 70 = .ok (.lushr, 1) := by decide +kernel
theorem d_Paper_bits_71 : decode b_Paper_bits 71 = .ok (.lstore 6, 2) := by decide +kernel
theorem d_Paper_bits_73 : decode b_Paper_bits 73 = .ok (.iload 5, 2) := by decide +kernel
theorem d_Paper_bits_75 : decode b_Paper_bits 75 = .ok (.ifCond .eq 34, 3) := by decide +kernel
theorem d_Paper_bits_78 : decode b_Paper_bits 78 = .ok (.iload 4, 2) := by decide +kernel
theorem d_Paper_bits_80 : decode b_Paper_bits 80 = .ok (.iconst 1, 1) := by decide +kernel
theorem d_Paper_bits_81 : decode b_Paper_bits 81 = .ok (.iadd, 1) := by decide +kernel
theorem d_Paper_bits_82 : decode b_Paper_bits 82 = .ok (.bipush 8, 2) := by decide +kernel
theorem d_Paper_bits_84 : decode b_Paper_bits 84 = .ok (.if_icmp .ge 25, 3) := by decide +kernel
theorem d_Paper_bits_87 : decode b_Paper_bits 87 = .ok (.lload 6, 2) := by decide +kernel
theorem d_Paper_bits_89 : decode b_Paper_bits 89 = .ok (.aload_n 0, 1) := by decide +kernel
theorem d_Paper_bits_90 : decode b_Paper_bits 90 = .ok (.getfield 18, 3) := by decide +kernel
theorem d_Paper_bits_93 : decode b_Paper_bits 93 = .ok (.iload_n 3, 1) := by decide +kernel
theorem d_Paper_bits_94 : decode b_Paper_bits 94 = .ok (.iload 4, 2) := by decide +kernel
theorem d_Paper_bits_96 : decode b_Paper_bits 96 = .ok (.iadd, 1) := by decide +kernel
theorem d_Paper_bits_97 : decode b_Paper_bits 97 = .ok (.iconst 1, 1) := by decide +kernel
theorem d_Paper_bits_98 : decode b_Paper_bits 98 = .ok (.iadd, 1) := by decide +kernel
theorem d_Paper_bits_99 : decode b_Paper_bits 99 = .ok (.laload, 1) := by decide +kernel
theorem d_Paper_bits_100 : decode b_Paper_bits 100 = .ok (.bipush 64, 2) := by decide +kernel
theorem d_Paper_bits_102 : decode b_Paper_bits 102 = .ok (.iload 5, 2) := by decide +kernel
theorem d_Paper_bits_104 : decode b_Paper_bits 104 = .ok (.isub, 1) := by decide +kernel
theorem d_Paper_bits_105 : decode b_Paper_bits 105 = .ok (.lshl, 1) := by decide +kernel
theorem d_Paper_bits_106 : decode b_Paper_bits 106 = .ok (.lor, 1) := by decide +kernel
theorem d_Paper_bits_107 : decode b_Paper_bits 107 = .ok (.lstore 6, 2) := by decide +kernel
theorem d_Paper_bits_109 : decode b_Paper_bits 109 = .ok (.lload 6, 2) := by decide +kernel
theorem d_Paper_bits_111 : decode b_Paper_bits 111 = .ok (.lreturn, 1) := by decide +kernel
theorem d_Paper_flip_0 : decode b_Paper_flip 0 = .ok (.iload_n 2, 1) := by decide +kernel
theorem d_Paper_flip_1 : decode b_Paper_flip 1 = .ok (.ifCond .lt 25, 3) := by decide +kernel
theorem d_Paper_flip_4 : decode b_Paper_flip 4 = .ok (.iload_n 2, 1) := by decide +kernel
theorem d_Paper_flip_5 : decode b_Paper_flip 5 = .ok (.aload_n 0, 1) := by decide +kernel
theorem d_Paper_flip_6 : decode b_Paper_flip 6 = .ok (.getfield 15, 3) := by decide +kernel
theorem d_Paper_flip_9 : decode b_Paper_flip 9 = .ok (.if_icmp .ge 17, 3) := by decide +kernel
theorem d_Paper_flip_12 : decode b_Paper_flip 12 = .ok (.iload_n 1, 1) := by decide +kernel
theorem d_Paper_flip_13 : decode b_Paper_flip 13 = .ok (.bipush (-64), 2) := by decide +kernel
theorem d_Paper_flip_15 : decode b_Paper_flip 15 = .ok (.if_icmp .le 11, 3) := by decide +kernel
theorem d_Paper_flip_18 : decode b_Paper_flip 18 = .ok (.iload_n 1, 1) := by decide +kernel
theorem d_Paper_flip_19 : decode b_Paper_flip 19 = .ok (.aload_n 0, 1) := by decide +kernel
theorem d_Paper_flip_20 : decode b_Paper_flip 20 = .ok (.getfield 9, 3) := by decide +kernel
theorem d_Paper_flip_23 : decode b_Paper_flip 23 = .ok (.if_icmp .lt 5, 3) := by decide +kernel
theorem d_Paper_flip_26 : decode b_Paper_flip 26 = .ok (.iconst 0, 1) := by decide +kernel
theorem d_Paper_flip_27 : decode b_Paper_flip 27 = .ok (.ireturn, 1) := by decide +kernel
theorem d_Paper_flip_28 : decode b_Paper_flip 28 = .ok (.iload_n 1, 1) := by decide +kernel
theorem d_Paper_flip_29 : decode b_Paper_flip 29 = .ok (.ifCond .ge 10, 3) := by decide +kernel
theorem d_Paper_flip_32 : decode b_Paper_flip 32 = .ok (.lload_n 3, 1) := by decide +kernel
theorem d_Paper_flip_33 : decode b_Paper_flip 33 = .ok (.iload_n 1, 1) := by decide +kernel
theorem d_Paper_flip_34 : decode b_Paper_flip 34 = .ok (.ineg, 1) := by decide +kernel
theorem d_Paper_flip_35 : decode b_Paper_flip 35 = .ok (.lushr, 1) := by decide +kernel
theorem d_Paper_flip_36 : decode b_Paper_flip 36 = .ok (.goto 4, 3) := by decide +kernel
theorem d_Paper_flip_39 : decode b_Paper_flip 39 = .ok (.lload_n 3, 1) := by decide +kernel
theorem d_Paper_flip_40 : decode b_Paper_flip 40 = .ok (.lstore 5, 2) := by decide +kernel
theorem d_Paper_flip_42 : decode b_Paper_flip 42 = .ok (.iload_n 1, 1) := by decide +kernel
theorem d_Paper_flip_43 : decode b_Paper_flip 43 = .ok (.iconst 0, 1) := by decide +kernel
theorem d_Paper_flip_44 : decode b_Paper_flip 44 = .ok (.invokestatic 36, 3) := by decide +kernel
theorem d_Paper_flip_47 : decode b_Paper_flip 47 = .ok (.istore 7, 2) := by decide +kernel
theorem d_Paper_flip_49 : decode b_Paper_flip 49 = .ok (.aload_n 0, 1) := by decide +kernel
theorem d_Paper_flip_50 : decode b_Paper_flip 50 = .ok (.getfield 9, 3) := by decide +kernel
theorem d_Paper_flip_53 : decode b_Paper_flip 53 = .ok (.iload 7, 2) := by decide +kernel
theorem d_Paper_flip_55 : decode b_Paper_flip 55 = .ok (.isub, 1) := by decide +kernel
theorem d_Paper_flip_56 : decode b_Paper_flip 56 = .ok (.bipush 64, 2) := by decide +kernel
theorem d_Paper_flip_58 : decode b_Paper_flip 58 = .ok (.if_icmp .ge 19, 3) := by decide +kernel
theorem d_Paper_flip_61 : decode b_Paper_flip 61 = .ok (.lload 5, 2) := by decide +kernel
theorem d_Paper_flip_63 : decode b_Paper_flip 63 = .ok (.lconst 1, 1) := by decide +kernel
theorem d_Paper_flip_64 : decode b_Paper_flip 64 = .ok (.aload_n 0, 1) := by decide +kernel
theorem d_Paper_flip_65 : decode b_Paper_flip 65 = .ok (.getfield 9, 3) := by decide +kernel
theorem d_Paper_flip_68 : decode b_Paper_flip 68 = .ok (.iload 7, 2) := by decide +kernel
theorem d_Paper_flip_70 : decode b_Paper_flip 70 = .ok (.isub, 1) := by decide +kernel
theorem d_Paper_flip_71 : decode b_Paper_flip 71 = .ok (.lshl, 1) := by decide +kernel
theorem d_Paper_flip_72 : decode b_Paper_flip 72 = .ok (.lconst 1, 1) := by decide +kernel
theorem d_Paper_flip_73 : decode b_Paper_flip 73 = .ok (.lsub, 1) := by decide +kernel
theorem d_Paper_flip_74 : decode b_Paper_flip 74 = .ok (.land, 1) := by decide +kernel
theorem d_Paper_flip_75 : decode b_Paper_flip 75 = .ok (.lstore 5, 2) := by decide +kernel
theorem d_Paper_flip_77 : decode b_Paper_flip 77 = .ok (.lload 5, 2) := by decide +kernel
theorem d_Paper_flip_79 : decode b_Paper_flip 79 = .ok (.lconst 0, 1) := by decide +kernel
theorem d_Paper_flip_80 : decode b_Paper_flip 80 = .ok (.lcmp, 1) := by decide +kernel
theorem d_Paper_flip_81 : decode b_Paper_flip 81 = .ok (.ifCond .ne 5, 3) := by decide +kernel
theorem d_Paper_flip_84 : decode b_Paper_flip 84 = .ok (.iconst 0, 1) := by decide +kernel
theorem d_Paper_flip_85 : decode b_Paper_flip 85 = .ok (.ireturn, 1) := by decide +kernel
theorem d_Paper_flip_86 : decode b_Paper_flip 86 = .ok (.iload_n 2, 1) := by decide +kernel
theorem d_Paper_flip_87 : decode b_Paper_flip 87 = .ok (.bipush 8, 2) := by decide +kernel
theorem d_Paper_flip_89 : decode b_Paper_flip 89 = .ok (.imul, 1) := by decide +kernel
theorem d_Paper_flip_90 : decode b_Paper_flip 90 = .ok (.iload 7, 2) := by decide +kernel
theorem d_Paper_flip_92 : decode b_Paper_flip 92 = .ok (.bipush 6, 2) := by decide +kernel
theorem d_Paper_flip_94 : decode b_Paper_flip 94 = .ok (.ishr, 1) := by decide +kernel
theorem d_Paper_flip_95 : decode b_Paper_flip 95 = .ok (.iadd, 1) := by decide +kernel
theorem d_Paper_flip_96 : decode b_Paper_flip 96 = .ok (.istore 8, 2) := by decide +kernel
theorem d_Paper_flip_98 : decode b_Paper_flip 98 = .ok (.iload 7, 2) := by decide +kernel
theorem d_Paper_flip_100 : decode b_Paper_flip 100 = .ok (.bipush 63, 2) := by decide +kernel
theorem d_Paper_flip_102 : decode b_Paper_flip 102 = .ok (.iand, 1) := by decide +kernel
theorem d_Paper_flip_103 : decode b_Paper_flip 103 = .ok (.istore 9, 2) := by decide +kernel
theorem d_Paper_flip_105 : decode b_Paper_flip 105 = .ok (.aload_n 0, 1) := by decide +kernel
theorem d_Paper_flip_106 : decode b_Paper_flip 106 = .ok (.getfield 18, 3) := by decide +kernel
theorem d_Paper_flip_109 : decode b_Paper_flip 109 = .ok (.iload 8, 2) := by decide +kernel
theorem d_Paper_flip_111 : decode b_Paper_flip 111 = .ok (.dup2, 1) := by decide +kernel
theorem d_Paper_flip_112 : decode b_Paper_flip 112 = .ok (.laload, 1) := by decide +kernel
theorem d_Paper_flip_113 : decode b_Paper_flip 113 = .ok (.lload 5, 2) := by decide +kernel
theorem d_Paper_flip_115 : decode b_Paper_flip 115 = .ok (.iload 9, 2) := by decide +kernel
theorem d_Paper_flip_117 : decode b_Paper_flip 117 = .ok (.lshl, 1) := by decide +kernel
theorem d_Paper_flip_118 : decode b_Paper_flip 118 = .ok (.lxor, 1) := by decide +kernel
theorem d_Paper_flip_119 : decode b_Paper_flip 119 = .ok (.lastore, 1) := by decide +kernel
theorem d_Paper_flip_120 : decode b_Paper_flip 120 = .ok (.iload 9, 2) := by decide +kernel
theorem d_Paper_flip_122 : decode b_Paper_flip 122 = .ok (.ifCond .eq 35, 3) := by decide +kernel
theorem d_Paper_flip_125 : decode b_Paper_flip 125 = .ok (.iload 7, 2) := by decide +kernel
theorem d_Paper_flip_127 : decode b_Paper_flip 127 = .ok (.bipush 6, 2) := by decide +kernel
theorem d_Paper_flip_129 : decode b_Paper_flip 129 = .ok (.ishr, 1) := by decide +kernel
theorem d_Paper_flip_130 : decode b_Paper_flip 130 = .ok (.iconst 1, 1) := by decide +kernel
theorem d_Paper_flip_131 : decode b_Paper_flip 131 = .ok (.iadd, 1) := by decide +kernel
theorem d_Paper_flip_132 : decode b_Paper_flip 132 = .ok (.bipush 8, 2) := by decide +kernel
theorem d_Paper_flip_134 : decode b_Paper_flip 134 = .ok (.if_icmp .ge 23, 3) := by decide +kernel
theorem d_Paper_flip_137 : decode b_Paper_flip 137 = .ok (.aload_n 0, 1) := by decide +kernel
theorem d_Paper_flip_138 : decode b_Paper_flip 138 = .ok (.getfield 18, 3) := by decide +kernel
theorem d_Paper_flip_141 : decode b_Paper_flip 141 = .ok (.iload 8, 2) := by decide +kernel
theorem d_Paper_flip_143 : decode b_Paper_flip 143 = .ok (.iconst 1, 1) := by decide +kernel
theorem d_Paper_flip_144 : decode b_Paper_flip 144 = .ok (.iadd, 1) := by decide +kernel
theorem d_Paper_flip_145 : decode b_Paper_flip 145 = .ok (.dup2, 1) := by decide +kernel
theorem d_Paper_flip_146 : decode b_Paper_flip 146 = .ok (.laload, 1) := by decide +kernel
theorem d_Paper_flip_147 : decode b_Paper_flip 147 = .ok (.lload 5, 2) := by decide +kernel
theorem d_Paper_flip_149 : decode b_Paper_flip 149 = .ok (.bipush 64, 2) := by decide +kernel
theorem d_Paper_flip_151 : decode b_Paper_flip 151 = .ok (.iload 9, 2) := by decide +kernel
theorem d_Paper_flip_153 : decode b_Paper_flip 153 = .ok (.isub, 1) := by decide +kernel
theorem d_Paper_flip_154 : decode b_Paper_flip 154 = .ok (.lushr, 1) := by decide +kernel
theorem d_Paper_flip_155 : decode b_Paper_flip 155 = .ok (.lxor, 1) := by decide +kernel
theorem d_Paper_flip_156 : decode b_Paper_flip 156 = .ok (.lastore, 1) := by decide +kernel
theorem d_Paper_flip_157 : decode b_Paper_flip 157 = .ok (.aload_n 0, 1) := by decide +kernel
theorem d_Paper_flip_158 : decode b_Paper_flip 158 = .ok (.aload_n 0, 1) := by decide +kernel
theorem d_Paper_flip_159 : decode b_Paper_flip 159 = .ok (.getfield 27, 3) := by decide +kernel
theorem d_Paper_flip_162 : decode b_Paper_flip 162 = .ok (.iload_n 2, 1) := by decide +kernel
theorem d_Paper_flip_163 : decode b_Paper_flip 163 = .ok (.invokestatic 42, 3) := by decide +kernel
theorem d_Paper_flip_166 : decode b_Paper_flip 166 = .ok (.putfield 27, 3) := by decide +kernel
theorem d_Paper_flip_169 : decode b_Paper_flip 169 = .ok (.lload 5, 2) := by decide +kernel
theorem d_Paper_flip_171 : decode b_Paper_flip 171 = .ok (.invokestatic 45, 3) := by decide +kernel
theorem d_Paper_flip_174 : decode b_Paper_flip 174 = .ok (.ireturn, 1) := by decide +kernel
theorem d_Paper_paint_0 : decode b_Paper_paint 0 = .ok (.iload_n 1, 1) := by decide +kernel
theorem d_Paper_paint_1 : decode b_Paper_paint 1 = .ok (.iconst 0, 1) := by decide +kernel
theorem d_Paper_paint_2 : decode b_Paper_paint 2 = .ok (.invokestatic 36, 3) := by decide +kernel
theorem d_Paper_paint_5 : decode b_Paper_paint 5 = .ok (.istore 6, 2) := by decide +kernel
theorem d_Paper_paint_7 : decode b_Paper_paint 7 = .ok (.iload_n 2, 1) := by decide +kernel
theorem d_Paper_paint_8 : decode b_Paper_paint 8 = .ok (.iconst 0, 1) := by decide +kernel
theorem d_Paper_paint_9 : decode b_Paper_paint 9 = .ok (.invokestatic 36, 3) := by decide +kernel
theorem d_Paper_paint_12 : decode b_Paper_paint 12 = .ok (.istore 7, 2) := by decide +kernel
theorem d_Paper_paint_14 : decode b_Paper_paint 14 = .ok (.iload_n 1, 1) := by decide +kernel
theorem d_Paper_paint_15 : decode b_Paper_paint 15 = .ok (.i2l, 1) := by decide +kernel
theorem d_Paper_paint_16 : decode b_Paper_paint 16 = .ok (.iload_n 3, 1) := by decide +kernel
theorem d_Paper_paint_17 : decode b_Paper_paint 17 = .ok (.i2l, 1) := by decide +kernel
theorem d_Paper_paint_18 : decode b_Paper_paint 18 = .ok (.ladd, 1) := by decide +kernel
theorem d_Paper_paint_19 : decode b_Paper_paint 19 = .ok (.aload_n 0, 1) := by decide +kernel
theorem d_Paper_paint_20 : decode b_Paper_paint 20 = .ok (.getfield 9, 3) := by decide +kernel
theorem d_Paper_paint_23 : decode b_Paper_paint 23 = .ok (.i2l, 1) := by decide +kernel
theorem d_Paper_paint_24 : decode b_Paper_paint 24 = .ok (.invokestatic 51, 3) := by decide +kernel
theorem d_Paper_paint_27 : decode b_Paper_paint 27 = .ok (.l2i, 1) := by decide +kernel
theorem d_Paper_paint_28 : decode b_Paper_paint 28 = .ok (.istore 8, 2) := by decide +kernel
theorem d_Paper_paint_30 : decode b_Paper_paint 30 = .ok (.iload_n 2, 1) := by decide +kernel
theorem d_Paper_paint_31 : decode b_Paper_paint 31 = .ok (.i2l, 1) := by decide +kernel
theorem d_Paper_paint_32 : decode b_Paper_paint 32 = .ok (.iload 4, 2) := by decide +kernel
theorem d_Paper_paint_34 : decode b_Paper_paint 34 = .ok (.i2l, 1) := by decide +kernel
theorem d_Paper_paint_35 : decode b_Paper_paint 35 = .ok (.ladd, 1) := by decide +kernel
theorem d_Paper_paint_36 : decode b_Paper_paint 36 = .ok (.aload_n 0, 1) := by decide +kernel
theorem d_Paper_paint_37 : decode b_Paper_paint 37 = .ok (.getfield 15, 3) := by decide +kernel
theorem d_Paper_paint_40 : decode b_Paper_paint 40 = .ok (.i2l, 1) := by decide +kernel
theorem d_Paper_paint_41 : decode b_Paper_paint 41 = .ok (.invokestatic 51, 3) := by decide +kernel
theorem d_Paper_paint_44 : decode b_Paper_paint 44 = .ok (.l2i, 1) := by decide +kernel
theorem d_Paper_paint_45 : decode b_Paper_paint 45 = .ok (.istore 9, 2) := by decide +kernel
theorem d_Paper_paint_47 : decode b_Paper_paint 47 = .ok (.iconst 0, 1) := by decide +kernel
theorem d_Paper_paint_48 : decode b_Paper_paint 48 = .ok (.istore 10, 2) := by decide +kernel
theorem d_Paper_paint_50 : decode b_Paper_paint 50 = .ok (.iload 7, 2) := by decide +kernel
theorem d_Paper_paint_52 : decode b_Paper_paint 52 = .ok (.istore 11, 2) := by decide +kernel
theorem d_Paper_paint_54 : decode b_Paper_paint 54 = .ok (.iload 11, 2) := by decide +kernel
theorem d_Paper_paint_56 : decode b_Paper_paint 56 = .ok (.iload 9, 2) := by decide +kernel
theorem d_Paper_paint_58 : decode b_Paper_paint 58 = .ok (.if_icmp .ge 74, 3) := by decide +kernel
theorem d_Paper_paint_61 : decode b_Paper_paint 61 = .ok (.iload 6, 2) := by decide +kernel
theorem d_Paper_paint_63 : decode b_Paper_paint 63 = .ok (.istore 12, 2) := by decide +kernel
theorem d_Paper_paint_65 : decode b_Paper_paint 65 = .ok (.iload 12, 2) := by decide +kernel
theorem d_Paper_paint_67 : decode b_Paper_paint 67 = .ok (.iload 8, 2) := by decide +kernel
theorem d_Paper_paint_69 : decode b_Paper_paint 69 = .ok (.if_icmp .ge 57, 3) := by decide +kernel
theorem d_Paper_paint_72 : decode b_Paper_paint 72 = .ok (.aload_n 0, 1) := by decide +kernel
theorem d_Paper_paint_73 : decode b_Paper_paint 73 = .ok (.iload 12, 2) := by decide +kernel
theorem d_Paper_paint_75 : decode b_Paper_paint 75 = .ok (.iload 11, 2) := by decide +kernel
theorem d_Paper_paint_77 : decode b_Paper_paint 77 = .ok (.invokevirtual 54, 3) := by decide +kernel
theorem d_Paper_paint_80 : decode b_Paper_paint 80 = .ok (.lstore 13, 2) := by decide +kernel
theorem d_Paper_paint_82 : decode b_Paper_paint 82 = .ok (.iload 10, 2) := by decide +kernel
theorem d_Paper_paint_84 : decode b_Paper_paint 84 = .ok (.aload_n 0, 1) := by decide +kernel
theorem d_Paper_paint_85 : decode b_Paper_paint 85 = .ok (.iload 12, 2) := by decide +kernel
theorem d_Paper_paint_87 : decode b_Paper_paint 87 = .ok (.iload 11, 2) := by decide +kernel
theorem d_Paper_paint_89 : decode b_Paper_paint 89 = .ok (.iload 5, 2) := by decide +kernel
theorem d_Paper_paint_91 : decode b_Paper_paint 91 = .ok (.ifCond .eq 12, 3) := by decide +kernel
theorem d_Paper_paint_94 : decode b_Paper_paint 94 = .ok (.lload 13, 2) := by decide +kernel
theorem d_Paper_paint_96 : decode b_Paper_paint 96 = .ok (.ldc2_w 58, 3) := by decide +kernel
theorem d_Paper_paint_99 : decode b_Paper_paint 99 = .ok (.lxor, 1) := by decide +kernel
theorem d_Paper_paint_100 : decode b_Paper_paint 100 = .ok (.goto 5, 3) := by decide +kernel
theorem d_Paper_paint_103 : decode b_Paper_paint 103 = .ok (.lload 13, 2) := by decide +kernel
theorem d_Paper_paint_105 : decode b_Paper_paint 105 = .ok (.iload 8, 2) := by decide +kernel
theorem d_Paper_paint_107 : decode b_Paper_paint 107 = .ok (.iload 12, 2) := by decide +kernel
theorem d_Paper_paint_109 : decode b_Paper_paint 109 = .ok (.isub, 1) := by decide +kernel
theorem d_Paper_paint_110 : decode b_Paper_paint 110 = .ok (.invokestatic 60, 3) := by decide +kernel
theorem d_Paper_paint_113 : decode b_Paper_paint 113 = .ok (.land, 1) := by decide +kernel
theorem d_Paper_paint_114 : decode b_Paper_paint 114 = .ok (.invokevirtual 64, 3) := by decide +kernel
theorem d_Paper_paint_117 : decode b_Paper_paint 117 = .ok (.iadd, 1) := by decide +kernel
theorem d_Paper_paint_118 : decode b_Paper_paint 118 = .ok (.istore 10, 2) := by decide +kernel
theorem d_Paper_paint_120 : decode b_Paper_paint 120 = .ok (.iinc 12 64, 3) := by decide +kernel
theorem d_Paper_paint_123 : decode b_Paper_paint 123 = .ok (.goto (-58), 3) := by decide +kernel
theorem d_Paper_paint_126 : decode b_Paper_paint 126 = .ok (.iinc 11 1, 3) := by decide +kernel
theorem d_Paper_paint_129 : decode b_Paper_paint 129 = .ok (.goto (-75), 3) := by decide +kernel
theorem d_Paper_paint_132 : decode b_Paper_paint 132 = .ok (.iload 10, 2) := by decide +kernel
theorem d_Paper_paint_134 : decode b_Paper_paint 134 = .ok (.ireturn, 1) := by decide +kernel
theorem d_Paper_countNow_0 : decode b_Paper_countNow 0 = .ok (.iconst 0, 1) := by decide +kernel
theorem d_Paper_countNow_1 : decode b_Paper_countNow 1 = .ok (.istore 5, 2) := by decide +kernel
theorem d_Paper_countNow_3 : decode b_Paper_countNow 3 = .ok (.iconst 0, 1) := by decide +kernel
theorem d_Paper_countNow_4 : decode b_Paper_countNow 4 = .ok (.istore 6, 2) := by decide +kernel
theorem d_Paper_countNow_6 : decode b_Paper_countNow 6 = .ok (.iload 6, 2) := by decide +kernel
theorem d_Paper_countNow_8 : decode b_Paper_countNow 8 = .ok (.iload 4, 2) := by decide +kernel
theorem d_Paper_countNow_10 : decode b_Paper_countNow 10 = .ok (.if_icmp .ge 31, 3) := by decide +kernel
theorem d_Paper_countNow_13 : decode b_Paper_countNow 13 = .ok (.iload 5, 2) := by decide +kernel
theorem d_Paper_countNow_15 : decode b_Paper_countNow 15 = .ok (.aload_n 0, 1) := by decide +kernel
theorem d_Paper_countNow_16 : decode b_Paper_countNow 16 = .ok (.iload_n 1, 1) := by decide +kernel
theorem d_Paper_countNow_17 : decode b_Paper_countNow 17 = .ok (.iload_n 2, 1) := by decide +kernel
theorem d_Paper_countNow_18 : decode b_Paper_countNow 18 = .ok (.iload 6, 2) := by decide +kernel
theorem d_Paper_countNow_20 : decode b_Paper_countNow 20 = .ok (.iadd, 1) := by decide +kernel
theorem d_Paper_countNow_21 : decode b_Paper_countNow 21 = .ok (.invokevirtual 54, 3) := by decide +kernel
theorem d_Paper_countNow_24 : decode b_Paper_countNow 24 = .ok (.iload_n 3, 1) := by decide +kernel
theorem d_Paper_countNow_25 : decode b_Paper_countNow 25 = .ok (.invokestatic 60, 3) := by decide +kernel
theorem d_Paper_countNow_28 : decode b_Paper_countNow 28 = .ok (.land, 1) := by decide +kernel
theorem d_Paper_countNow_29 : decode b_Paper_countNow 29 = .ok (.invokestatic 45, 3) := by decide +kernel
theorem d_Paper_countNow_32 : decode b_Paper_countNow 32 = .ok (.iadd, 1) := by decide +kernel
theorem d_Paper_countNow_33 : decode b_Paper_countNow 33 = .ok (.istore 5, 2) := by decide +kernel
theorem d_Paper_countNow_35 : decode b_Paper_countNow 35 = .ok (.iinc 6 1, 3) := by decide +kernel
theorem d_Paper_countNow_38 : decode b_Paper_countNow 38 = .ok (.goto (-32), 3) := by decide +kernel
theorem d_Paper_countNow_41 : decode b_Paper_countNow 41 = .ok (.iload 5, 2) := by decide +kernel
theorem d_Paper_countNow_43 : decode b_Paper_countNow 43 = .ok (.ireturn, 1) := by decide +kernel
theorem d_Paper_lowest_0 : decode b_Paper_lowest 0 = .ok (.iload_n 0, 1) := by decide +kernel
theorem d_Paper_lowest_1 : decode b_Paper_lowest 1 = .ok (.bipush 64, 2) := by decide +kernel
theorem d_Paper_lowest_3 : decode b_Paper_lowest 3 = .ok (.if_icmp .lt 9, 3) := by decide +kernel
theorem d_Paper_lowest_6 : decode b_Paper_lowest 6 = .ok (.ldc2_w 58, 3) := by decide +kernel
theorem d_Paper_lowest_9 : decode b_Paper_lowest 9 = .ok (.goto 8, 3) := by decide +kernel
theorem d_Paper_lowest_12 : decode b_Paper_lowest 12 = .ok (.lconst 1, 1) := by decide +kernel
theorem d_Paper_lowest_13 : decode b_Paper_lowest 13 = .ok (.iload_n 0, 1) := by decide +kernel
theorem d_Paper_lowest_14 : decode b_Paper_lowest 14 = .ok (.lshl, 1) := by decide +kernel
theorem d_Paper_lowest_15 : decode b_Paper_lowest 15 = .ok (.lconst 1, 1) := by decide +kernel
theorem d_Paper_lowest_16 : decode b_Paper_lowest 16 = .ok (.lsub, 1) := by decide +kernel
theorem d_Paper_lowest_17 : decode b_Paper_lowest 17 = .ok (.lreturn, 1) := by decide +kernel
theorem d_Paper_addUp_0 : decode b_Paper_addUp 0 = .ok (.aload_n 0, 1) := by decide +kernel
theorem d_Paper_addUp_1 : decode b_Paper_addUp 1 = .ok (.getfield 27, 3) := by decide +kernel
theorem d_Paper_addUp_4 : decode b_Paper_addUp 4 = .ok (.iconst 0, 1) := by decide +kernel
theorem d_Paper_addUp_5 : decode b_Paper_addUp 5 = .ok (.invokestatic 36, 3) := by decide +kernel
theorem d_Paper_addUp_8 : decode b_Paper_addUp 8 = .ok (.istore_n 1, 1) := by decide +kernel
theorem d_Paper_addUp_9 : decode b_Paper_addUp 9 = .ok (.iload_n 1, 1) := by decide +kernel
theorem d_Paper_addUp_10 : decode b_Paper_addUp 10 = .ok (.aload_n 0, 1) := by decide +kernel
theorem d_Paper_addUp_11 : decode b_Paper_addUp 11 = .ok (.getfield 15, 3) := by decide +kernel
theorem d_Paper_addUp_14 : decode b_Paper_addUp 14 = .ok (.if_icmp .ge 54, 3) := by decide +kernel
theorem d_Paper_addUp_17 : decode b_Paper_addUp 17 = .ok (.aload_n 0, 1) := by decide +kernel
theorem d_Paper_addUp_18 : decode b_Paper_addUp 18 = .ok (.iload_n 1, 1) := by decide +kernel
theorem d_Paper_addUp_19 : decode b_Paper_addUp 19 = .ok (.invokevirtual 68, 3) := by decide +kernel
theorem d_Paper_addUp_22 : decode b_Paper_addUp 22 = .ok (.ifCond .eq 35, 3) := by decide +kernel
theorem d_Paper_addUp_25 : decode b_Paper_addUp 25 = .ok (.aload_n 0, 1) := by decide +kernel
theorem d_Paper_addUp_26 : decode b_Paper_addUp 26 = .ok (.getfield 23, 3) := by decide +kernel
theorem d_Paper_addUp_29 : decode b_Paper_addUp 29 = .ok (.iload_n 1, 1) := by decide +kernel
theorem d_Paper_addUp_30 : decode b_Paper_addUp 30 = .ok (.sipush 513, 3) := by decide +kernel
theorem d_Paper_addUp_33 : decode b_Paper_addUp 33 = .ok (.imul, 1) := by decide +kernel
theorem d_Paper_addUp_34 : decode b_Paper_addUp 34 = .ok (.aload_n 0, 1) := by decide +kernel
theorem d_Paper_addUp_35 : decode b_Paper_addUp 35 = .ok (.getfield 23, 3) := by decide +kernel
theorem d_Paper_addUp_38 : decode b_Paper_addUp 38 = .ok (.iload_n 1, 1) := by decide +kernel
theorem d_Paper_addUp_39 : decode b_Paper_addUp 39 = .ok (.iconst 1, 1) := by decide +kernel
theorem d_Paper_addUp_40 : decode b_Paper_addUp 40 = .ok (.iadd, 1) := by decide +kernel
theorem d_Paper_addUp_41 : decode b_Paper_addUp 41 = .ok (.sipush 513, 3) := by decide +kernel
theorem d_Paper_addUp_44 : decode b_Paper_addUp 44 = .ok (.imul, 1) := by decide +kernel
theorem d_Paper_addUp_45 : decode b_Paper_addUp 45 = .ok (.aload_n 0, 1) := by decide +kernel
theorem d_Paper_addUp_46 : decode b_Paper_addUp 46 = .ok (.getfield 9, 3) := by decide +kernel
theorem d_Paper_addUp_49 : decode b_Paper_addUp 49 = .ok (.iconst 1, 1) := by decide +kernel
theorem d_Paper_addUp_50 : decode b_Paper_addUp 50 = .ok (.iadd, 1) := by decide +kernel
theorem d_Paper_addUp_51 : decode b_Paper_addUp 51 = .ok (.invokestatic 72, 3) := by decide +kernel
theorem d_Paper_addUp_54 : decode b_Paper_addUp 54 = .ok (.goto 8, 3) := by decide +kernel
theorem d_Paper_addUp_57 : decode b_Paper_addUp 57 = .ok (.aload_n 0, 1) := by decide +kernel
theorem d_Paper_addUp_58 : decode b_Paper_addUp 58 = .ok (.iload_n 1, 1) := by decide +kernel
theorem d_Paper_addUp_59 : decode b_Paper_addUp 59 = .ok (.invokevirtual 78, 3) := by decide +kernel
theorem d_Paper_addUp_62 : decode b_Paper_addUp 62 = .ok (.iinc 1 1, 3) := by decide +kernel
theorem d_Paper_addUp_65 : decode b_Paper_addUp 65 = .ok (.goto (-56), 3) := by decide +kernel
theorem d_Paper_addUp_68 : decode b_Paper_addUp 68 = .ok (.aload_n 0, 1) := by decide +kernel
theorem d_Paper_addUp_69 : decode b_Paper_addUp 69 = .ok (.aload_n 0, 1) := by decide +kernel
theorem d_Paper_addUp_70 : decode b_Paper_addUp 70 = .ok (.getfield 15, 3) := by decide +kernel
theorem d_Paper_addUp_73 : decode b_Paper_addUp 73 = .ok (.putfield 27, 3) := by decide +kernel
theorem d_Paper_addUp_76 : decode b_Paper_addUp 76 = .ok (.return_, 1) := by decide +kernel
theorem d_Paper_isLight_0 : decode b_Paper_isLight 0 = .ok (.lconst 0, 1) := by decide +kernel
theorem d_Paper_isLight_1 : decode b_Paper_isLight 1 = .ok (.lstore_n 2, 1) := by decide +kernel
theorem d_Paper_isLight_2 : decode b_Paper_isLight 2 = .ok (.iconst 0, 1) := by decide +kernel
theorem d_Paper_isLight_3 : decode b_Paper_isLight 3 = .ok (.istore 4, 2) := by decide +kernel
theorem d_Paper_isLight_5 : decode b_Paper_isLight 5 = .ok (.iload 4, 2) := by decide +kernel
theorem d_Paper_isLight_7 : decode b_Paper_isLight 7 = .ok (.bipush 8, 2) := by decide +kernel
theorem d_Paper_isLight_9 : decode b_Paper_isLight 9 = .ok (.if_icmp .ge 24, 3) := by decide +kernel
theorem d_Paper_isLight_12 : decode b_Paper_isLight 12 = .ok (.lload_n 2, 1) := by decide +kernel
theorem d_Paper_isLight_13 : decode b_Paper_isLight 13 = .ok (.aload_n 0, 1) := by decide +kernel
theorem d_Paper_isLight_14 : decode b_Paper_isLight 14 = .ok (.getfield 18, 3) := by decide +kernel
theorem d_Paper_isLight_17 : decode b_Paper_isLight 17 = .ok (.iload_n 1, 1) := by decide +kernel
theorem d_Paper_isLight_18 : decode b_Paper_isLight 18 = .ok (.bipush 8, 2) := by decide +kernel
theorem d_Paper_isLight_20 : decode b_Paper_isLight 20 = .ok (.imul, 1) := by decide +kernel
theorem d_Paper_isLight_21 : decode b_Paper_isLight 21 = .ok (.iload 4, 2) := by decide +kernel
theorem d_Paper_isLight_23 : decode b_Paper_isLight 23 = .ok (.iadd, 1) := by decide +kernel
theorem d_Paper_isLight_24 : decode b_Paper_isLight 24 = .ok (.laload, 1) := by decide +kernel
theorem d_Paper_isLight_25 : decode b_Paper_isLight 25 = .ok (.lor, 1) := by decide +kernel
theorem d_Paper_isLight_26 : decode b_Paper_isLight 26 = .ok (.lstore_n 2, 1) := by decide +kernel
theorem d_Paper_isLight_27 : decode b_Paper_isLight 27 = .ok (.iinc 4 1, 3) := by decide +kernel
theorem d_Paper_isLight_30 : decode b_Paper_isLight 30 = .ok (.goto (-25), 3) := by decide +kernel
theorem d_Paper_isLight_33 : decode b_Paper_isLight 33 = .ok (.lload_n 2, 1) := by decide +kernel
theorem d_Paper_isLight_34 : decode b_Paper_isLight 34 = .ok (.lconst 0, 1) := by decide +kernel
theorem d_Paper_isLight_35 : decode b_Paper_isLight 35 = .ok (.lcmp, 1) := by decide +kernel
theorem d_Paper_isLight_36 : decode b_Paper_isLight 36 = .ok (.ifCond .ne 7, 3) := by decide +kernel
theorem d_Paper_isLight_39 : decode b_Paper_isLight 39 = .ok (.iconst 1, 1) := by decide +kernel
theorem d_Paper_isLight_40 : decode b_Paper_isLight 40 = .ok (.goto 4, 3) := by decide +kernel
theorem d_Paper_isLight_43 : decode b_Paper_isLight 43 = .ok (.iconst 0, 1) := by decide +kernel
theorem d_Paper_isLight_44 : decode b_Paper_isLight 44 = .ok (.ireturn, 1) := by decide +kernel
theorem d_Paper_addUpRow_0 : decode b_Paper_addUpRow 0 = .ok (.iload_n 1, 1) := by decide +kernel
theorem d_Paper_addUpRow_1 : decode b_Paper_addUpRow 1 = .ok (.sipush 513, 3) := by decide +kernel
theorem d_Paper_addUpRow_4 : decode b_Paper_addUpRow 4 = .ok (.imul, 1) := by decide +kernel
theorem d_Paper_addUpRow_5 : decode b_Paper_addUpRow 5 = .ok (.iconst 1, 1) := by decide +kernel
theorem d_Paper_addUpRow_6 : decode b_Paper_addUpRow 6 = .ok (.iadd, 1) := by decide +kernel
theorem d_Paper_addUpRow_7 : decode b_Paper_addUpRow 7 = .ok (.istore_n 2, 1) := by decide +kernel
theorem d_Paper_addUpRow_8 : decode b_Paper_addUpRow 8 = .ok (.iload_n 2, 1) := by decide +kernel
theorem d_Paper_addUpRow_9 : decode b_Paper_addUpRow 9 = .ok (.sipush 513, 3) := by decide +kernel
theorem d_Paper_addUpRow_12 : decode b_Paper_addUpRow 12 = .ok (.iadd, 1) := by decide +kernel
theorem d_Paper_addUpRow_13 : decode b_Paper_addUpRow 13 = .ok (.istore_n 3, 1) := by decide +kernel
theorem d_Paper_addUpRow_14 : decode b_Paper_addUpRow 14 = .ok (.iconst 0, 1) := by decide +kernel
theorem d_Paper_addUpRow_15 : decode b_Paper_addUpRow 15 = .ok (.istore 4, 2) := by decide +kernel
theorem d_Paper_addUpRow_17 : decode b_Paper_addUpRow 17 = .ok (.iconst 0, 1) := by decide +kernel
theorem d_Paper_addUpRow_18 : decode b_Paper_addUpRow 18 = .ok (.istore 5, 2) := by decide +kernel
theorem d_Paper_addUpRow_20 : decode b_Paper_addUpRow 20 = .ok (.iload 5, 2) := by decide +kernel
theorem d_Paper_addUpRow_22 : decode b_Paper_addUpRow 22 = .ok (.aload_n 0, 1) := by decide +kernel
theorem d_Paper_addUpRow_23 : decode b_Paper_addUpRow 23 = .ok (.getfield 9, 3) := by decide +kernel
theorem d_Paper_addUpRow_26 : decode b_Paper_addUpRow 26 = .ok (.if_icmp .ge 59, 3) := by decide +kernel
