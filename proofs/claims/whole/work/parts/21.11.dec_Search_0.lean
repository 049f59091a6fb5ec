theorem d_Search_init_0 : decode b_Search_init 0 = .ok (.aload_n 0, 1) := by decide +kernel
theorem d_Search_init_1 : decode b_Search_init 1 = .ok (.invokespecial 3, 3) := by decide +kernel
theorem d_Search_init_4 : decode b_Search_init 4 = .ok (.aload_n 0, 1) := by decide +kernel
theorem d_Search_init_5 : decode b_Search_init 5 = .ok (.new 9, 3) := by decide +kernel
theorem d_Search_init_8 : decode b_Search_init 8 = .ok (.dup, 1) := by decide +kernel
theorem d_Search_init_9 : decode b_Search_init 9 = .ok (.invokespecial 11, 3) := by decide +kernel
theorem d_Search_init_12 : decode b_Search_init 12 = .ok (.putfield 12, 3) := by decide +kernel
theorem d_Search_init_15 : decode b_Search_init 15 = .ok (.aload_n 0, 1) := by decide +kernel
theorem d_Search_init_16 : decode b_Search_init 16 = .ok (.new 18, 3) := by decide +kernel
theorem d_Search_init_19 : decode b_Search_init 19 = .ok (.dup, 1) := by decide +kernel
theorem d_Search_init_20 : decode b_Search_init 20 = .ok (.invokespecial 20, 3) := by decide +kernel
theorem d_Search_init_23 : decode b_Search_init 23 = .ok (.putfield 21, 3) := by decide +kernel
theorem d_Search_init_26 : decode b_Search_init 26 = .ok (.aload_n 0, 1) := by decide +kernel
theorem d_Search_init_27 : decode b_Search_init 27 = .ok (.iconst 4, 1) := by decide +kernel
theorem d_Search_init_28 : decode b_Search_init 28 = .ok (.newarray .int, 2) := by decide +kernel
theorem d_Search_init_30 : decode b_Search_init 30 = .ok (.putfield 25, 3) := by decide +kernel
theorem d_Search_init_33 : decode b_Search_init 33 = .ok (.aload_n 0, 1) := by decide +kernel
theorem d_Search_init_34 : decode b_Search_init 34 = .ok (.ldc 29, 2) := by decide +kernel
theorem d_Search_init_36 : decode b_Search_init 36 = .ok (.newarray .long, 2) := by decide +kernel
theorem d_Search_init_38 : decode b_Search_init 38 = .ok (.putfield 30, 3) := by decide +kernel
theorem d_Search_init_41 : decode b_Search_init 41 = .ok (.return_, 1) := by decide +kernel
theorem d_Search_look_0 : decode b_Search_look 0 = .ok (.aload_n 0, 1) := by decide +kernel
theorem d_Search_look_1 : decode b_Search_look 1 = .ok (.getfield 21, 3) := by decide +kernel
theorem d_Search_look_4 : decode b_Search_look 4 = .ok (.invokevirtual 34, 3) := by decide +kernel
theorem d_Search_look_7 : decode b_Search_look 7 = .ok (.aload_n 0, 1) := by decide +kernel
theorem d_Search_look_8 : decode b_Search_look 8 = .ok (.iload_n 3, 1) := by decide +kernel
theorem d_Search_look_9 : decode b_Search_look 9 = .ok (.putfield 37, 3) := by decide +kernel
theorem d_Search_look_12 : decode b_Search_look 12 = .ok (.aload_n 0, 1) := by decide +kernel
theorem d_Search_look_13 : decode b_Search_look 13 = .ok (.iload_n 3, 1) := by decide +kernel
theorem d_Search_look_14 : decode b_Search_look 14 = .ok (.iconst 3, 1) := by decide +kernel
theorem d_Search_look_15 : decode b_Search_look 15 = .ok (.idiv, 1) := by decide +kernel
theorem d_Search_look_16 : decode b_Search_look 16 = .ok (.putfield 41, 3) := by decide +kernel
theorem d_Search_look_19 : decode b_Search_look 19 = .ok (.aload_n 0, 1) := by decide +kernel
theorem d_Search_look_20 : decode b_Search_look 20 = .ok (.iconst 0, 1) := by decide +kernel
theorem d_Search_look_21 : decode b_Search_look 21 = .ok (.putfield 44, 3) := by decide +kernel
theorem d_Search_look_24 : decode b_Search_look 24 = .ok (.aload_n 0, 1) := by decide +kernel
theorem d_Search_look_25 : decode b_Search_look 25 = .ok (.getfield 12, 3) := by decide +kernel
theorem d_Search_look_28 : decode b_Search_look 28 = .ok (.getfield 48, 3) := by decide +kernel
theorem d_Search_look_31 : decode b_Search_look 31 = .ok (.aload_n 0, 1) := by decide +kernel
theorem d_Search_look_32 : decode b_Search_look 32 = .ok (.getfield 12, 3) := by decide +kernel
theorem d_Search_look_35 : decode b_Search_look 35 = .ok (.getfield 51, 3) := by decide +kernel
theorem d_Search_look_38 : decode b_Search_look 38 = .ok (.invokestatic 54, 3) := by decide +kernel
theorem d_Search_look_41 : decode b_Search_look 41 = .ok (.istore 4, 2) := by decide +kernel
theorem d_Search_look_43 : decode b_Search_look 43 = .ok (.iload_n 1, 1) := by decide +kernel
theorem d_Search_look_44 : decode b_Search_look 44 = .ok (.istore 5, 2) := by decide +kernel
theorem d_Search_look_46 : decode b_Search_look 46 = .ok (.iload 5, 2) := by decide +kernel
theorem d_Search_look_48 : decode b_Search_look 48 = .ok (.iload_n 2, 1) := by decide +kernel
theorem d_Search_look_49 : decode b_Search_look 49 = .ok (.if_icmp .gt 70, 3) := by decide +kernel
theorem d_Search_look_52 : decode b_Search_look 52 = .ok (.iload 5, 2) := by decide +kernel
theorem d_Search_look_54 : decode b_Search_look 54 = .ok (.iconst 1, 1) := by decide +kernel
theorem d_Search_look_55 : decode b_Search_look 55 = .ok (.invokestatic 60, 3) := by decide +kernel
theorem d_Search_look_58 : decode b_Search_look 58 = .ok (.imul, 1) := by decide +kernel
theorem d_Search_look_59 : decode b_Search_look 59 = .ok (.iload 4, 2) := by decide +kernel
theorem d_Search_look_61 : decode b_Search_look 61 = .ok (.if_icmp .gt 58, 3) := by decide +kernel
theorem d_Search_look_64 : decode b_Search_look 64 = .ok (.aload_n 0, 1) := by decide +kernel
theorem d_Search_look_65 : decode b_Search_look 65 = .ok (.iload 5, 2) := by decide +kernel
theorem d_Search_look_67 : decode b_Search_look 67 = .ok (.putfield 66, 3) := by decide +kernel
theorem d_Search_look_70 : decode b_Search_look 70 = .ok (.aload_n 0, 1) := by decide +kernel
theorem d_Search_look_71 : decode b_Search_look 71 = .ok (.dup, 1) := by decide +kernel
theorem d_Search_look_72 : decode b_Search_look 72 = .ok (.getfield 69, 3) := by decide +kernel
theorem d_Search_look_75 : decode b_Search_look 75 = .ok (.iconst 1, 1) := by decide +kernel
theorem d_Search_look_76 : decode b_Search_look 76 = .ok (.iadd, 1) := by decide +kernel
theorem d_Search_look_77 : decode b_Search_look 77 = .ok (.putfield 69, 3) := by decide +kernel
theorem d_Search_look_80 : decode b_Search_look 80 = .ok (.aload_n 0, 1) := by decide +kernel
theorem d_Search_look_81 : decode b_Search_look 81 = .ok (.iconst 0, 1) := by decide +kernel
theorem d_Search_look_82 : decode b_Search_look 82 = .ok (.iconst 0, 1) := by decide +kernel
theorem d_Search_look_83 : decode b_Search_look 83 = .ok (.aload_n 0, 1) := by decide +kernel
theorem d_Search_look_84 : decode b_Search_look 84 = .ok (.getfield 12, 3) := by decide +kernel
theorem d_Search_look_87 : decode b_Search_look 87 = .ok (.getfield 48, 3) := by decide +kernel
theorem d_Search_look_90 : decode b_Search_look 90 = .ok (.bipush 7, 2) := by decide +kernel
theorem d_Search_look_92 : decode b_Search_look 92 = .ok (.iload 5, 2) := by decide +kernel
theorem d_Search_look_94 : decode b_Search_look 94 = .ok (.imul, 1) := by decide +kernel
theorem d_Search_look_95 : decode b_Search_look 95 = .ok (.isub, 1) := by decide +kernel
theorem d_Search_look_96 : decode b_Search_look 96 = .ok (.aload_n 0, 1) := by decide +kernel
theorem d_Search_look_97 : decode b_Search_look 97 = .ok (.getfield 12, 3) := by decide +kernel
theorem d_Search_look_100 : decode b_Search_look 100 = .ok (.getfield 51, 3) := by decide +kernel
theorem d_Search_look_103 : decode b_Search_look 103 = .ok (.bipush 7, 2) := by decide +kernel
theorem d_Search_look_105 : decode b_Search_look 105 = .ok (.iload 5, 2) := by decide +kernel
theorem d_Search_look_107 : decode b_Search_look 107 = .ok (.imul, 1) := by decide +kernel
theorem d_Search_look_108 : decode b_Search_look 108 = .ok (.isub, 1) := by decide +kernel
theorem d_Search_look_109 : decode b_Search_look 109 = .ok (.iconst 0, 1) := by decide +kernel
theorem d_Search_look_110 : decode b_Search_look 110 = .ok (.invokevirtual 72, 3) := by decide +kernel
theorem d_Search_look_113 : decode b_Search_look 113 = .ok (.iinc 5 1, 3) := by decide +kernel
theorem d_Search_look_116 : decode b_Search_look 116 = .ok (.goto (-70), 3) := by decide +kernel
theorem d_Search_look_119 : decode b_Search_look 119 = .ok (.aload_n 0, 1) := by decide +kernel
theorem d_Search_look_120 : decode b_Search_look 120 = .ok (.getfield 44, 3) := by decide +kernel
theorem d_Search_look_123 : decode b_Search_look 123 = .ok (.ifCond .ne 7, 3) := by decide +kernel
theorem d_Search_look_126 : decode b_Search_look 126 = .ok (.iconst 1, 1) := by decide +kernel
theorem d_Search_look_127 : decode b_Search_look 127 = .ok (.goto 4, 3) := by decide +kernel
theorem d_Search_look_130 : decode b_Search_look 130 = .ok (.iconst 0, 1) := by decide +kernel
theorem d_Search_look_131 : decode b_Search_look 131 = .ok (.ireturn, 1) := by decide +kernel
theorem d_Search_siftFinders_0 : decode b_Search_siftFinders 0 = .ok (.aload_n 0, 1) := by decide +kernel
theorem d_Search_siftFinders_1 : decode b_Search_siftFinders 1 = .ok (.getfield 44, 3) := by decide +kernel
theorem d_Search_siftFinders_4 : decode b_Search_siftFinders 4 = .ok (.ifCond .ne 21, 3) := by decide +kernel
theorem d_Search_siftFinders_7 : decode b_Search_siftFinders 7 = .ok (.iload 5, 2) := by decide +kernel
theorem d_Search_siftFinders_9 : decode b_Search_siftFinders 9 = .ok (.bipush 10, 2) := by decide +kernel
theorem d_Search_siftFinders_11 : decode b_Search_siftFinders 11 = .ok (.if_icmp .gt 14, 3) := by decide +kernel
theorem d_Search_siftFinders_14 : decode b_Search_siftFinders 14 = .ok (.iload_n 1, 1) := by decide +kernel
theorem d_Search_siftFinders_15 : decode b_Search_siftFinders 15 = .ok (.iload_n 3, 1) := by decide +kernel
theorem d_Search_siftFinders_16 : decode b_Search_siftFinders 16 = .ok (.if_icmp .gt 9, 3) := by decide +kernel
theorem d_Search_siftFinders_19 : decode b_Search_siftFinders 19 = .ok (.iload_n 2, 1) := by decide +kernel
theorem d_Search_siftFinders_20 : decode b_Search_siftFinders 20 = .ok (.iload 4, 2) := by decide +kernel
theorem d_Search_siftFinders_22 : decode b_Search_siftFinders 22 = .ok (.if_icmp .le 4, 3) := by decide +kernel
theorem d_Search_siftFinders_25 : decode b_Search_siftFinders 25 = .ok (.return_, 1) := by decide +kernel
theorem d_Search_siftFinders_26 : decode b_Search_siftFinders 26 = .ok (.aload_n 0, 1) := by decide +kernel
theorem d_Search_siftFinders_27 : decode b_Search_siftFinders 27 = .ok (.iload_n 1, 1) := by decide +kernel
theorem d_Search_siftFinders_28 : decode b_Search_siftFinders 28 = .ok (.iload_n 2, 1) := by decide +kernel
theorem d_Search_siftFinders_29 : decode b_Search_siftFinders 29 = .ok (.iload_n 3, 1) := by decide +kernel
theorem d_Search_siftFinders_30 : decode b_Search_siftFinders 30 = .ok (.iload 4, 2) := by decide +kernel
theorem d_Search_siftFinders_32 : decode b_Search_siftFinders 32 = .ok (.invokevirtual 76, 3) := by decide +kernel
theorem d_Search_siftFinders_35 : decode b_Search_siftFinders 35 = .ok (.aload_n 0, 1) := by decide +kernel
theorem d_Search_siftFinders_36 : decode b_Search_siftFinders 36 = .ok (.iload_n 1, 1) := by decide +kernel
theorem d_Search_siftFinders_37 : decode b_Search_siftFinders 37 = .ok (.iload_n 2, 1) := by decide +kernel
theorem d_Search_siftFinders_38 : decode b_Search_siftFinders 38 = .ok (.invokevirtual 80, 3) := by decide +kernel
theorem d_Search_siftFinders_41 : decode b_Search_siftFinders 41 = .ok (.aload_n 0, 1) := by decide +kernel
theorem d_Search_siftFinders_42 : decode b_Search_siftFinders 42 = .ok (.getfield 41, 3) := by decide +kernel
theorem d_Search_siftFinders_45 : decode b_Search_siftFinders 45 = .ok (.if_icmp .le 4, 3) := by decide +kernel
theorem d_Search_siftFinders_48 : decode b_Search_siftFinders 48 = .ok (.return_, 1) := by decide +kernel
theorem d_Search_siftFinders_49 : decode b_Search_siftFinders 49 = .ok (.aload_n 0, 1) := by decide +kernel
theorem d_Search_siftFinders_50 : decode b_Search_siftFinders 50 = .ok (.invokevirtual 83, 3) := by decide +kernel
theorem d_Search_siftFinders_53 : decode b_Search_siftFinders 53 = .ok (.ifCond .ne 19, 3) := by decide +kernel
theorem d_Search_siftFinders_56 : decode b_Search_siftFinders 56 = .ok (.aload_n 0, 1) := by decide +kernel
theorem d_Search_siftFinders_57 : decode b_Search_siftFinders 57 = .ok (.iload_n 1, 1) := by decide +kernel
theorem d_Search_siftFinders_58 : decode b_Search_siftFinders 58 = .ok (.iload_n 2, 1) := by decide +kernel
theorem d_Search_siftFinders_59 : decode b_Search_siftFinders 59 = .ok (.bipush 7, 2) := by decide +kernel
theorem d_Search_siftFinders_61 : decode b_Search_siftFinders 61 = .ok (.aload_n 0, 1) := by decide +kernel
theorem d_Search_siftFinders_62 : decode b_Search_siftFinders 62 = .ok (.getfield 66, 3) := by decide +kernel
theorem d_Search_siftFinders_65 : decode b_Search_siftFinders 65 = .ok (.imul, 1) := by decide +kernel
theorem d_Search_siftFinders_66 : decode b_Search_siftFinders 66 = .ok (.invokevirtual 87, 3) := by decide +kernel
theorem d_Search_siftFinders_69 : decode b_Search_siftFinders 69 = .ok (.ifCond .eq 13, 3) := by decide +kernel
theorem d_Search_siftFinders_72 : decode b_Search_siftFinders 72 = .ok (.aload_n 0, 1) := by decide +kernel
theorem d_Search_siftFinders_73 : decode b_Search_siftFinders 73 = .ok (.iload_n 1, 1) := by decide +kernel
theorem d_Search_siftFinders_74 : decode b_Search_siftFinders 74 = .ok (.iload_n 2, 1) := by decide +kernel
theorem d_Search_siftFinders_75 : decode b_Search_siftFinders 75 = .ok (.iload_n 3, 1) := by decide +kernel
theorem d_Search_siftFinders_76 : decode b_Search_siftFinders 76 = .ok (.iload 4, 2) := by decide +kernel
theorem d_Search_siftFinders_78 : decode b_Search_siftFinders 78 = .ok (.invokevirtual 91, 3) := by decide +kernel
theorem d_Search_siftFinders_81 : decode b_Search_siftFinders 81 = .ok (.return_, 1) := by decide +kernel
theorem d_Search_siftFinders_82 : decode b_Search_siftFinders 82 = .ok (.iload_n 1, 1) := by decide +kernel
theorem d_Search_siftFinders_83 : decode b_Search_siftFinders 83 = .ok (.iload_n 3, 1) := by decide +kernel
theorem d_Search_siftFinders_84 : decode b_Search_siftFinders 84 = .ok (.iadd, 1) := by decide +kernel
theorem d_Search_siftFinders_85 : decode b_Search_siftFinders 85 = .ok (.iconst 2, 1) := by decide +kernel
theorem d_Search_siftFinders_86 : decode b_Search_siftFinders 86 = .ok (.idiv, 1) := by decide +kernel
theorem d_Search_siftFinders_87 : decode b_Search_siftFinders 87 = .ok (.istore 6, 2) := by decide +kernel
theorem d_Search_siftFinders_89 : decode b_Search_siftFinders 89 = .ok (.iload_n 2, 1) := by decide +kernel
theorem d_Search_siftFinders_90 : decode b_Search_siftFinders 90 = .ok (.iload 4, 2) := by decide +kernel
theorem d_Search_siftFinders_92 : decode b_Search_siftFinders 92 = .ok (.iadd, 1) := by decide +kernel
theorem d_Search_siftFinders_93 : decode b_Search_siftFinders 93 = .ok (.iconst 2, 1) := by decide +kernel
theorem d_Search_siftFinders_94 : decode b_Search_siftFinders 94 = .ok (.idiv, 1) := by decide +kernel
theorem d_Search_siftFinders_95 : decode b_Search_siftFinders 95 = .ok (.istore 7, 2) := by decide +kernel
theorem d_Search_siftFinders_97 : decode b_Search_siftFinders 97 = .ok (.aload_n 0, 1) := by decide +kernel
theorem d_Search_siftFinders_98 : decode b_Search_siftFinders 98 = .ok (.iload_n 1, 1) := by decide +kernel
theorem d_Search_siftFinders_99 : decode b_Search_siftFinders 99 = .ok (.iload_n 2, 1) := by decide +kernel
theorem d_Search_siftFinders_100 : decode b_Search_siftFinders 100 = .ok (.iload 6, 2) := by decide +kernel
theorem d_Search_siftFinders_102 : decode b_Search_siftFinders 102 = .ok (.iload 7, 2) := by decide +kernel
theorem d_Search_siftFinders_104 : decode b_Search_siftFinders 104 = .ok (.iload 5, 2) := by decide +kernel
theorem d_Search_siftFinders_106 : decode b_Search_siftFinders 106 = .ok (.iconst 1, 1) := by decide +kernel
theorem d_Search_siftFinders_107 : decode b_Search_siftFinders 107 = .ok (.iadd, 1) := by decide +kernel
theorem d_Search_siftFinders_108 : decode b_Search_siftFinders 108 = .ok (.invokevirtual 72, 3) := by decide +kernel
theorem d_Search_siftFinders_111 : decode b_Search_siftFinders 111 = .ok (.aload_n 0, 1) := by decide +kernel
theorem d_Search_siftFinders_112 : decode b_Search_siftFinders 112 = .ok (.iload 6, 2) := by decide +kernel
theorem d_Search_siftFinders_114 : decode b_Search_siftFinders 114 = .ok (.iconst 1, 1) := by decide +kernel
theorem d_Search_siftFinders_115 : decode b_Search_siftFinders 115 = .ok (.iadd, 1) := by decide +kernel
theorem d_Search_siftFinders_116 : decode b_Search_siftFinders 116 = .ok (.iload_n 2, 1) := by decide +kernel
theorem d_Search_siftFinders_117 : decode b_Search_siftFinders 117 = .ok (.iload_n 3, 1) := by decide +kernel
theorem d_Search_siftFinders_118 : decode b_Search_siftFinders 118 = .ok (.iload 7, 2) := by decide +kernel
theorem d_Search_siftFinders_120 : decode b_Search_siftFinders 120 = .ok (.iload 5, 2) := by decide +kernel
theorem d_Search_siftFinders_122 : decode b_Search_siftFinders 122 = .ok (.iconst 1, 1) := by decide +kernel
theorem d_Search_siftFinders_123 : decode b_Search_siftFinders 123 = .ok (.iadd, 1) := by decide +kernel
theorem d_Search_siftFinders_124 : decode b_Search_siftFinders 124 = .ok (.invokevirtual 72, 3) := by decide +kernel
theorem d_Search_siftFinders_127 : decode b_Search_siftFinders 127 = .ok (.aload_n 0, 1) := by decide +kernel
theorem d_Search_siftFinders_128 : decode b_Search_siftFinders 128 = .ok (.iload_n 1, 1) := by decide +kernel
theorem d_Search_siftFinders_129 : decode b_Search_siftFinders 129 = .ok (.iload 7, 2) := by decide +kernel
theorem d_Search_siftFinders_131 : decode b_Search_siftFinders 131 = .ok (.iconst 1, 1) := by decide +kernel
theorem d_Search_siftFinders_132 : decode b_Search_siftFinders 132 = .ok (.iadd, 1) := by decide +kernel
theorem d_Search_siftFinders_133 : decode b_Search_siftFinders 133 = .ok (.iload 6, 2) := by decide +kernel
theorem d_Search_siftFinders_135 : decode b_Search_siftFinders 135 = .ok (.iload 4, 2) := by decide +kernel
theorem d_Search_siftFinders_137 : decode b_Search_siftFinders 137 = .ok (.iload 5, 2) := by decide +kernel
theorem d_Search_siftFinders_139 : decode b_Search_siftFinders 139 = .ok (.iconst 1, 1) := by decide +kernel
theorem d_Search_siftFinders_140 : decode b_Search_siftFinders 140 = .ok (.iadd, 1) := by decide +kernel
theorem d_Search_siftFinders_141 : decode b_Search_siftFinders 141 = .ok (.invokevirtual 72, 3) := by decide +kernel
theorem d_Search_siftFinders_144 : decode b_Search_siftFinders 144 = .ok (.aload_n 0, 1) := by decide +kernel
theorem d_Search_siftFinders_145 : decode b_Search_siftFinders 145 = .ok (.iload 6, 2) := by decide +kernel
theorem d_Search_siftFinders_147 : decode b_Search_siftFinders 147 = .ok (.iconst 1, 1) := by decide +kernel
theorem d_Search_siftFinders_148 : decode b_Search_siftFinders 148 = .ok (.iadd, 1) := by decide +kernel
theorem d_Search_siftFinders_149 : decode b_Search_siftFinders 149 = .ok (.iload 7, 2) := by decide +kernel
theorem d_Search_siftFinders_151 : decode b_Search_siftFinders 151 = .ok (.iconst 1, 1) := by decide +kernel
theorem d_Search_siftFinders_152 : decode b_Search_siftFinders 152 = .ok (.iadd, 1) := by decide +kernel
theorem d_Search_siftFinders_153 : decode b_Search_siftFinders 153 = .ok (.iload_n 3, 1) := by decide +kernel
theorem d_Search_siftFinders_154 : decode b_Search_siftFinders 154 = .ok (.iload 4, 2) := by decide +kernel
theorem d_Search_siftFinders_156 : decode b_Search_siftFinders 156 = .ok (.iload 5, 2) := by decide +kernel
theorem d_Search_siftFinders_158 : decode b_Search_siftFinders 158 = .ok (.iconst 1, 1) := by decide +kernel
theorem d_Search_siftFinders_159 : decode b_Search_siftFinders 159 = .ok (.iadd, 1) := by decide +kernel
theorem d_Search_siftFinders_160 : decode b_Search_siftFinders 160 = .ok (.invokevirtual 72, 3) := by decide +kernel
theorem d_Search_siftFinders_163 : decode b_Search_siftFinders 163 = .ok (.return_, 1) := by decide +kernel
theorem d_Search_siftVersions_0 : decode b_Search_siftVersions 0 = .ok (.aload_n 0, 1) := by decide +kernel
theorem d_Search_siftVersions_1 : decode b_Search_siftVersions 1 = .ok (.invokevirtual 83, 3) := by decide +kernel
theorem d_Search_siftVersions_4 : decode b_Search_siftVersions 4 = .ok (.istore 5, 2) := by decide +kernel
theorem d_Search_siftVersions_6 : decode b_Search_siftVersions 6 = .ok (.iconst 0, 1) := by decide +kernel
theorem d_Search_siftVersions_7 : decode b_Search_siftVersions 7 = .ok (.istore 6, 2) := by decide +kernel
theorem d_Search_siftVersions_9 : decode b_Search_siftVersions 9 = .ok (.iload 6, 2) := by decide +kernel
theorem d_Search_siftVersions_11 : decode b_Search_siftVersions 11 = .ok (.iconst 4, 1) := by decide +kernel
theorem d_Search_siftVersions_12 : decode b_Search_siftVersions 12 = .ok (.if_icmp .ge 213, 3) := by decide +kernel
theorem d_Search_siftVersions_15 : decode b_Search_siftVersions 15 = .ok (.bipush 15, 2) := by decide +kernel
theorem d_Search_siftVersions_17 : decode b_Search_siftVersions 17 = .ok (.iconst 1, 1) := by decide +kernel
theorem d_Search_siftVersions_18 : decode b_Search_siftVersions 18 = .ok (.iload 6, 2) := by decide +kernel
theorem d_Search_siftVersions_20 : decode b_Search_siftVersions 20 = .ok (.iconst 2, 1) := by decide +kernel
theorem d_Search_siftVersions_21 : decode b_Search_siftVersions 21 = .ok (.iadd, 1) := by decide +kernel
theorem d_Search_siftVersions_22 : decode b_Search_siftVersions 22 = .ok (.iconst 3, 1) := by decide +kernel
theorem d_Search_siftVersions_23 : decode b_Search_siftVersions 23 = .ok (.iand, 1) := by decide +kernel
theorem d_Search_siftVersions_24 : decode b_Search_siftVersions 24 = .ok (.ishl, 1) := by decide +kernel
theorem d_Search_siftVersions_25 : decode b_Search_siftVersions 25 = .ok (.iconst (-1), 1) := by decide +kernel
theorem d_Search_siftVersions_26 : decode b_Search_siftVersions 26 = .ok (.ixor, 1) := by decide +kernel
theorem d_Search_siftVersions_27 : decode b_Search_siftVersions 27 = .ok (.iand, 1) := by decide +kernel
theorem d_Search_siftVersions_28 : decode b_Search_siftVersions 28 = .ok (.istore 7, 2) := by decide +kernel
theorem d_Search_siftVersions_30 : decode b_Search_siftVersions 30 = .ok (.iload 5, 2) := by decide +kernel
theorem d_Search_siftVersions_32 : decode b_Search_siftVersions 32 = .ok (.ifCond .eq 22, 3) := by decide +kernel
theorem d_Search_siftVersions_35 : decode b_Search_siftVersions 35 = .ok (.aload_n 0, 1) := by decide +kernel
theorem d_Search_siftVersions_36 : decode b_Search_siftVersions 36 = .ok (.iload 6, 2) := by decide +kernel
theorem d_Search_siftVersions_38 : decode b_Search_siftVersions 38 = .ok (.iload_n 1, 1) := by decide +kernel
theorem d_Search_siftVersions_39 : decode b_Search_siftVersions 39 = .ok (.iload_n 2, 1) := by decide +kernel
theorem d_Search_siftVersions_40 : decode b_Search_siftVersions 40 = .ok (.invokevirtual 94, 3) := by decide +kernel
theorem d_Search_siftVersions_43 : decode b_Search_siftVersions 43 = .ok (.aload_n 0, 1) := by decide +kernel
theorem d_Search_siftVersions_44 : decode b_Search_siftVersions 44 = .ok (.getfield 41, 3) := by decide +kernel
theorem d_Search_siftVersions_47 : decode b_Search_siftVersions 47 = .ok (.if_icmp .le 7, 3) := by decide +kernel
theorem d_Search_siftVersions_50 : decode b_Search_siftVersions 50 = .ok (.iconst 0, 1) := by decide +kernel
theorem d_Search_siftVersions_51 : decode b_Search_siftVersions 51 = .ok (.goto 5, 3) := by decide +kernel
theorem d_Search_siftVersions_54 : decode b_Search_siftVersions 54 = .ok (.bipush 40, 2) := by decide +kernel
theorem d_Search_siftVersions_56 : decode b_Search_siftVersions 56 = .ok (.istore 8, 2) := by decide +kernel
theorem d_Search_siftVersions_58 : decode b_Search_siftVersions 58 = .ok (.iconst 1, 1) := by decide +kernel
theorem d_Search_siftVersions_59 : decode b_Search_siftVersions 59 = .ok (.istore 9, 2) := by decide +kernel
theorem d_Search_siftVersions_61 : decode b_Search_siftVersions 61 = .ok (.iload 9, 2) := by decide +kernel
theorem d_Search_siftVersions_63 : decode b_Search_siftVersions 63 = .ok (.iload 8, 2) := by decide +kernel
theorem d_Search_siftVersions_65 : decode b_Search_siftVersions 65 = .ok (.if_icmp .gt 154, 3) := by decide +kernel
theorem d_Search_siftVersions_68 : decode b_Search_siftVersions 68 = .ok (.aload_n 0, 1) := by decide +kernel
theorem d_Search_siftVersions_69 : decode b_Search_siftVersions 69 = .ok (.iload 9, 2) := by decide +kernel
theorem d_Search_siftVersions_71 : decode b_Search_siftVersions 71 = .ok (.invokestatic 60, 3) := by decide +kernel
theorem d_Search_siftVersions_74 : decode b_Search_siftVersions 74 = .ok (.putfield 98, 3) := by decide +kernel
theorem d_Search_siftVersions_77 : decode b_Search_siftVersions 77 = .ok (.aload_n 0, 1) := by decide +kernel
theorem d_Search_siftVersions_78 : decode b_Search_siftVersions 78 = .ok (.getfield 98, 3) := by decide +kernel
theorem d_Search_siftVersions_81 : decode b_Search_siftVersions 81 = .ok (.bipush 7, 2) := by decide +kernel
theorem d_Search_siftVersions_83 : decode b_Search_siftVersions 83 = .ok (.isub, 1) := by decide +kernel
theorem d_Search_siftVersions_84 : decode b_Search_siftVersions 84 = .ok (.aload_n 0, 1) := by decide +kernel
theorem d_Search_siftVersions_85 : decode b_Search_siftVersions 85 = .ok (.getfield 66, 3) := by decide +kernel
theorem d_Search_siftVersions_88 : decode b_Search_siftVersions 88 = .ok (.imul, 1) := by decide +kernel
theorem d_Search_siftVersions_89 : decode b_Search_siftVersions 89 = .ok (.istore 10, 2) := by decide +kernel
theorem d_Search_siftVersions_91 : decode b_Search_siftVersions 91 = .ok (.iload 6, 2) := by decide +kernel
theorem d_Search_siftVersions_93 : decode b_Search_siftVersions 93 = .ok (.invokestatic 101, 3) := by decide +kernel
theorem d_Search_siftVersions_96 : decode b_Search_siftVersions 96 = .ok (.ifCond .eq 8, 3) := by decide +kernel
theorem d_Search_siftVersions_99 : decode b_Search_siftVersions 99 = .ok (.iload 10, 2) := by decide +kernel
theorem d_Search_siftVersions_101 : decode b_Search_siftVersions 101 = .ok (.goto 4, 3) := by decide +kernel
theorem d_Search_siftVersions_104 : decode b_Search_siftVersions 104 = .ok (.iconst 0, 1) := by decide +kernel
theorem d_Search_siftVersions_105 : decode b_Search_siftVersions 105 = .ok (.istore 11, 2) := by decide +kernel
theorem d_Search_siftVersions_107 : decode b_Search_siftVersions 107 = .ok (.iload 6, 2) := by decide +kernel
theorem d_Search_siftVersions_109 : decode b_Search_siftVersions 109 = .ok (.invokestatic 105, 3) := by decide +kernel
theorem d_Search_siftVersions_112 : decode b_Search_siftVersions 112 = .ok (.ifCond .eq 8, 3) := by decide +kernel
theorem d_Search_siftVersions_115 : decode b_Search_siftVersions 115 = .ok (.iload 10, 2) := by decide +kernel
theorem d_Search_siftVersions_117 : decode b_Search_siftVersions 117 = .ok (.goto 4, 3) := by decide +kernel
theorem d_Search_siftVersions_120 : decode b_Search_siftVersions 120 = .ok (.iconst 0, 1) := by decide +kernel
theorem d_Search_siftVersions_121 : decode b_Search_siftVersions 121 = .ok (.istore 12, 2) := by decide +kernel
theorem d_Search_siftVersions_123 : decode b_Search_siftVersions 123 = .ok (.iload_n 3, 1) := by decide +kernel
theorem d_Search_siftVersions_124 : decode b_Search_siftVersions 124 = .ok (.iload 11, 2) := by decide +kernel
theorem d_Search_siftVersions_126 : decode b_Search_siftVersions 126 = .ok (.isub, 1) := by decide +kernel
theorem d_Search_siftVersions_127 : decode b_Search_siftVersions 127 = .ok (.aload_n 0, 1) := by decide +kernel
theorem d_Search_siftVersions_128 : decode b_Search_siftVersions 128 = .ok (.getfield 12, 3) := by decide +kernel
theorem d_Search_siftVersions_131 : decode b_Search_siftVersions 131 = .ok (.getfield 48, 3) := by decide +kernel
theorem d_Search_siftVersions_134 : decode b_Search_siftVersions 134 = .ok (.aload_n 0, 1) := by decide +kernel
theorem d_Search_siftVersions_135 : decode b_Search_siftVersions 135 = .ok (.getfield 98, 3) := by decide +kernel
theorem d_Search_siftVersions_138 : decode b_Search_siftVersions 138 = .ok (.aload_n 0, 1) := by decide +kernel
theorem d_Search_siftVersions_139 : decode b_Search_siftVersions 139 = .ok (.getfield 66, 3) := by decide +kernel
theorem d_Search_siftVersions_142 : decode b_Search_siftVersions 142 = .ok (.imul, 1) := by decide +kernel
theorem d_Search_siftVersions_143 : decode b_Search_siftVersions 143 = .ok (.isub, 1) := by decide +kernel
theorem d_Search_siftVersions_144 : decode b_Search_siftVersions 144 = .ok (.invokestatic 54, 3) := by decide +kernel
theorem d_Search_siftVersions_147 : decode b_Search_siftVersions 147 = .ok (.istore 13, 2) := by decide +kernel
theorem d_Search_siftVersions_149 : decode b_Search_siftVersions 149 = .ok (.iload 4, 2) := by decide +kernel
theorem d_Search_siftVersions_151 : decode b_Search_siftVersions 151 = .ok (.iload 12, 2) := by decide +kernel
theorem d_Search_siftVersions_153 : decode b_Search_siftVersions 153 = .ok (.isub, 1) := by decide +kernel
theorem d_Search_siftVersions_154 : decode b_Search_siftVersions 154 = .ok (.aload_n 0, 1) := by decide +kernel
theorem d_Search_siftVersions_155 : decode b_Search_siftVersions 155 = .ok (.getfield 12, 3) := by decide +kernel
theorem d_Search_siftVersions_158 : decode b_Search_siftVersions 158 = .ok (.getfield 51, 3) := by decide +kernel
theorem d_Search_siftVersions_161 : decode b_Search_siftVersions 161 = .ok (.aload_n 0, 1) := by decide +kernel
theorem d_Search_siftVersions_162 : decode b_Search_siftVersions 162 = .ok (.getfield 98, 3) := by decide +kernel
theorem d_Search_siftVersions_165 : decode b_Search_siftVersions 165 = .ok (.aload_n 0, 1) := by decide +kernel
theorem d_Search_siftVersions_166 : decode b_Search_siftVersions 166 = .ok (.getfield 66, 3) := by decide +kernel
theorem d_Search_siftVersions_169 : decode b_Search_siftVersions 169 = .ok (.imul, 1) := by decide +kernel
theorem d_Search_siftVersions_170 : decode b_Search_siftVersions 170 = .ok (.isub, 1) := by decide +kernel
theorem d_Search_siftVersions_171 : decode b_Search_siftVersions 171 = .ok (.invokestatic 54, 3) := by decide +kernel
theorem d_Search_siftVersions_174 : decode b_Search_siftVersions 174 = .ok (.istore 14, 2) := by decide +kernel
theorem d_Search_siftVersions_176 : decode b_Search_siftVersions 176 = .ok (.iload_n 1, 1) := by decide +kernel
theorem d_Search_siftVersions_177 : decode b_Search_siftVersions 177 = .ok (.iload 11, 2) := by decide +kernel
theorem d_Search_siftVersions_179 : decode b_Search_siftVersions 179 = .ok (.isub, 1) := by decide +kernel
theorem d_Search_siftVersions_180 : decode b_Search_siftVersions 180 = .ok (.iconst 0, 1) := by decide +kernel
theorem d_Search_siftVersions_181 : decode b_Search_siftVersions 181 = .ok (.invokestatic 108, 3) := by decide +kernel
theorem d_Search_siftVersions_184 : decode b_Search_siftVersions 184 = .ok (.istore 15, 2) := by decide +kernel
theorem d_Search_siftVersions_186 : decode b_Search_siftVersions 186 = .ok (.iload_n 2, 1) := by decide +kernel
theorem d_Search_siftVersions_187 : decode b_Search_siftVersions 187 = .ok (.iload 12, 2) := by decide +kernel
theorem d_Search_siftVersions_189 : decode b_Search_siftVersions 189 = .ok (.isub, 1) := by decide +kernel
theorem d_Search_siftVersions_190 : decode b_Search_siftVersions 190 = .ok (.iconst 0, 1) := by decide +kernel
theorem d_Search_siftVersions_191 : decode b_Search_siftVersions 191 = .ok (.invokestatic 108, 3) := by decide +kernel
theorem d_Search_siftVersions_194 : decode b_Search_siftVersions 194 = .ok (.istore 16, 2) := by decide +kernel
theorem d_Search_siftVersions_196 : decode b_Search_siftVersions 196 = .ok (.aload_n 0, 1) := by decide +kernel
theorem d_Search_siftVersions_197 : decode b_Search_siftVersions 197 = .ok (.iload 6, 2) := by decide +kernel
theorem d_Search_siftVersions_199 : decode b_Search_siftVersions 199 = .ok (.iload 7, 2) := by decide +kernel
theorem d_Search_siftVersions_201 : decode b_Search_siftVersions 201 = .ok (.iload 15, 2) := by decide +kernel
theorem d_Search_siftVersions_203 : decode b_Search_siftVersions 203 = .ok (.iload 16, 2) := by decide +kernel
theorem d_Search_siftVersions_205 : decode b_Search_siftVersions 205 = .ok (.iload 13, 2) := by decide +kernel
theorem d_Search_siftVersions_207 : decode b_Search_siftVersions 207 = .ok (.iload 14, 2) := by decide +kernel
theorem d_Search_siftVersions_209 : decode b_Search_siftVersions 209 = .ok (.iconst 0, 1) := by decide +kernel
theorem d_Search_siftVersions_210 : decode b_Search_siftVersions 210 = .ok (.invokevirtual 111, 3) := by decide +kernel
theorem d_Search_siftVersions_213 : decode b_Search_siftVersions 213 = .ok (.iinc 9 1, 3) := by decide +kernel
theorem d_Search_siftVersions_216 : decode b_Search_siftVersions 216 = .ok (.goto (-155), 3) := by decide +kernel
theorem d_Search_siftVersions_219 : decode b_Search_siftVersions 219 = .ok (.iinc 6 1, 3) := by decide +kernel
theorem d_Search_siftVersions_222 : decode b_Search_siftVersions 222 = .ok (.goto (-213), 3) := by decide +kernel
theorem d_Search_siftVersions_225 : decode b_Search_siftVersions 225 = .ok (.return_, 1) := by decide +kernel
theorem d_Search_siftPlaces_0 : decode b_Search_siftPlaces 0 = .ok (.aload_n 0, 1) := by decide +kernel
theorem d_Search_siftPlaces_1 : decode b_Search_siftPlaces 1 = .ok (.getfield 44, 3) := by decide +kernel
theorem d_Search_siftPlaces_4 : decode b_Search_siftPlaces 4 = .ok (.ifCond .ne 23, 3) := by decide +kernel
theorem d_Search_siftPlaces_7 : decode b_Search_siftPlaces 7 = .ok (.iload 7, 2) := by decide +kernel
theorem d_Search_siftPlaces_9 : decode b_Search_siftPlaces 9 = .ok (.bipush 10, 2) := by decide +kernel
theorem d_Search_siftPlaces_11 : decode b_Search_siftPlaces 11 = .ok (.if_icmp .gt 16, 3) := by decide +kernel
theorem d_Search_siftPlaces_14 : decode b_Search_siftPlaces 14 = .ok (.iload_n 3, 1) := by decide +kernel
theorem d_Search_siftPlaces_15 : decode b_Search_siftPlaces 15 = .ok (.iload 5, 2) := by decide +kernel
theorem d_Search_siftPlaces_17 : decode b_Search_siftPlaces 17 = .ok (.if_icmp .gt 10, 3) := by decide +kernel
theorem d_Search_siftPlaces_20 : decode b_Search_siftPlaces 20 = .ok (.iload 4, 2) := by decide +kernel
theorem d_Search_siftPlaces_22 : decode b_Search_siftPlaces 22 = .ok (.iload 6, 2) := by decide +kernel
theorem d_Search_siftPlaces_24 : decode b_Search_siftPlaces 24 = .ok (.if_icmp .le 4, 3) := by decide +kernel
theorem d_Search_siftPlaces_27 : decode b_Search_siftPlaces 27 = .ok (.return_, 1) := by decide +kernel
theorem d_Search_siftPlaces_28 : decode b_Search_siftPlaces 28 = .ok (.aload_n 0, 1) := by decide +kernel
theorem d_Search_siftPlaces_29 : decode b_Search_siftPlaces 29 = .ok (.iload_n 3, 1) := by decide +kernel
theorem d_Search_siftPlaces_30 : decode b_Search_siftPlaces 30 = .ok (.iload 4, 2) := by decide +kernel
theorem d_Search_siftPlaces_32 : decode b_Search_siftPlaces 32 = .ok (.iload 5, 2) := by decide +kernel
theorem d_Search_siftPlaces_34 : decode b_Search_siftPlaces 34 = .ok (.iload 6, 2) := by decide +kernel
theorem d_Search_siftPlaces_36 : decode b_Search_siftPlaces 36 = .ok (.invokevirtual 76, 3) := by decide +kernel
theorem d_Search_siftPlaces_39 : decode b_Search_siftPlaces 39 = .ok (.aload_n 0, 1) := by decide +kernel
theorem d_Search_siftPlaces_40 : decode b_Search_siftPlaces 40 = .ok (.invokevirtual 83, 3) := by decide +kernel
theorem d_Search_siftPlaces_43 : decode b_Search_siftPlaces 43 = .ok (.istore 8, 2) := by decide +kernel
theorem d_Search_siftPlaces_45 : decode b_Search_siftPlaces 45 = .ok (.iload_n 2, 1) := by decide +kernel
theorem d_Search_siftPlaces_46 : decode b_Search_siftPlaces 46 = .ok (.istore 9, 2) := by decide +kernel
theorem d_Search_siftPlaces_48 : decode b_Search_siftPlaces 48 = .ok (.aload_n 0, 1) := by decide +kernel
theorem d_Search_siftPlaces_49 : decode b_Search_siftPlaces 49 = .ok (.getfield 25, 3) := by decide +kernel
theorem d_Search_siftPlaces_52 : decode b_Search_siftPlaces 52 = .ok (.iconst 0, 1) := by decide +kernel
theorem d_Search_siftPlaces_53 : decode b_Search_siftPlaces 53 = .ok (.invokestatic 115, 3) := by decide +kernel
theorem d_Search_siftPlaces_56 : decode b_Search_siftPlaces 56 = .ok (.iconst 0, 1) := by decide +kernel
theorem d_Search_siftPlaces_57 : decode b_Search_siftPlaces 57 = .ok (.istore 10, 2) := by decide +kernel
theorem d_Search_siftPlaces_59 : decode b_Search_siftPlaces 59 = .ok (.iload 10, 2) := by decide +kernel
theorem d_Search_siftPlaces_61 : decode b_Search_siftPlaces 61 = .ok (.iconst 4, 1) := by decide +kernel
theorem d_Search_siftPlaces_62 : decode b_Search_siftPlaces 62 = .ok (.if_icmp .ge 170, 3) := by decide +kernel
theorem d_Search_siftPlaces_65 : decode b_Search_siftPlaces 65 = .ok (.iload_n 1, 1) := by decide +kernel
theorem d_Search_siftPlaces_66 : decode b_Search_siftPlaces 66 = .ok (.iload 10, 2) := by decide +kernel
theorem d_Search_siftPlaces_68 : decode b_Search_siftPlaces 68 = .ok (.iadd, 1) := by decide +kernel
theorem d_Search_siftPlaces_69 : decode b_Search_siftPlaces 69 = .ok (.iconst 3, 1) := by decide +kernel
theorem d_Search_siftPlaces_70 : decode b_Search_siftPlaces 70 = .ok (.iand, 1) := by decide +kernel
theorem d_Search_siftPlaces_71 : decode b_Search_siftPlaces 71 = .ok (.istore 11, 2) := by decide +kernel
theorem d_Search_siftPlaces_73 : decode b_Search_siftPlaces 73 = .ok (.iconst 1, 1) := by decide +kernel
theorem d_Search_siftPlaces_74 : decode b_Search_siftPlaces 74 = .ok (.iload 11, 2) := by decide +kernel
theorem d_Search_siftPlaces_76 : decode b_Search_siftPlaces 76 = .ok (.iconst 2, 1) := by decide +kernel
theorem d_Search_siftPlaces_77 : decode b_Search_siftPlaces 77 = .ok (.iadd, 1) := by decide +kernel
theorem d_Search_siftPlaces_78 : decode b_Search_siftPlaces 78 = .ok (.iconst 3, 1) := by decide +kernel
theorem d_Search_siftPlaces_79 : decode b_Search_siftPlaces 79 = .ok (.iand, 1) := by decide +kernel
theorem d_Search_siftPlaces_80 : decode b_Search_siftPlaces 80 = .ok (.ishl, 1) := by decide +kernel
theorem d_Search_siftPlaces_81 : decode b_Search_siftPlaces 81 = .ok (.istore 12, 2) := by decide +kernel
theorem d_Search_siftPlaces_83 : decode b_Search_siftPlaces 83 = .ok (.iload 9, 2) := by decide +kernel
theorem d_Search_siftPlaces_85 : decode b_Search_siftPlaces 85 = .ok (.iload 12, 2) := by decide +kernel
theorem d_Search_siftPlaces_87 : decode b_Search_siftPlaces 87 = .ok (.iconst (-1), 1) := by decide +kernel
theorem d_Search_siftPlaces_88 : decode b_Search_siftPlaces 88 = .ok (.ixor, 1) := by decide +kernel
theorem d_Search_siftPlaces_89 : decode b_Search_siftPlaces 89 = .ok (.iand, 1) := by decide +kernel
theorem d_Search_siftPlaces_90 : decode b_Search_siftPlaces 90 = .ok (.ifCond .eq 136, 3) := by decide +kernel
theorem d_Search_siftPlaces_93 : decode b_Search_siftPlaces 93 = .ok (.aload_n 0, 1) := by decide +kernel
theorem d_Search_siftPlaces_94 : decode b_Search_siftPlaces 94 = .ok (.iload 11, 2) := by decide +kernel
theorem d_Search_siftPlaces_96 : decode b_Search_siftPlaces 96 = .ok (.invokevirtual 121, 3) := by decide +kernel
theorem d_Search_siftPlaces_99 : decode b_Search_siftPlaces 99 = .ok (.istore 13, 2) := by decide +kernel
theorem d_Search_siftPlaces_101 : decode b_Search_siftPlaces 101 = .ok (.aload_n 0, 1) := by decide +kernel
theorem d_Search_siftPlaces_102 : decode b_Search_siftPlaces 102 = .ok (.iload 11, 2) := by decide +kernel
theorem d_Search_siftPlaces_104 : decode b_Search_siftPlaces 104 = .ok (.invokevirtual 124, 3) := by decide +kernel
theorem d_Search_siftPlaces_107 : decode b_Search_siftPlaces 107 = .ok (.istore 14, 2) := by decide +kernel
theorem d_Search_siftPlaces_109 : decode b_Search_siftPlaces 109 = .ok (.iload 8, 2) := by decide +kernel
theorem d_Search_siftPlaces_111 : decode b_Search_siftPlaces 111 = .ok (.ifCond .eq 16, 3) := by decide +kernel
theorem d_Search_siftPlaces_114 : decode b_Search_siftPlaces 114 = .ok (.aload_n 0, 1) := by decide +kernel
theorem d_Search_siftPlaces_115 : decode b_Search_siftPlaces 115 = .ok (.iload 11, 2) := by decide +kernel
theorem d_Search_siftPlaces_117 : decode b_Search_siftPlaces 117 = .ok (.iload 13, 2) := by decide +kernel
theorem d_Search_siftPlaces_119 : decode b_Search_siftPlaces 119 = .ok (.iload 14, 2) := by decide +kernel
theorem d_Search_siftPlaces_121 : decode b_Search_siftPlaces 121 = .ok (.invokevirtual 94, 3) := by decide +kernel
theorem d_Search_siftPlaces_124 : decode b_Search_siftPlaces 124 = .ok (.goto 22, 3) := by decide +kernel
theorem d_Search_siftPlaces_127 : decode b_Search_siftPlaces 127 = .ok (.aload_n 0, 1) := by decide +kernel
theorem d_Search_siftPlaces_128 : decode b_Search_siftPlaces 128 = .ok (.iload 13, 2) := by decide +kernel
theorem d_Search_siftPlaces_130 : decode b_Search_siftPlaces 130 = .ok (.iload 14, 2) := by decide +kernel
theorem d_Search_siftPlaces_132 : decode b_Search_siftPlaces 132 = .ok (.invokevirtual 80, 3) := by decide +kernel
theorem d_Search_siftPlaces_135 : decode b_Search_siftPlaces 135 = .ok (.aload_n 0, 1) := by decide +kernel
theorem d_Search_siftPlaces_136 : decode b_Search_siftPlaces 136 = .ok (.iload 11, 2) := by decide +kernel
theorem d_Search_siftPlaces_138 : decode b_Search_siftPlaces 138 = .ok (.iload 13, 2) := by decide +kernel
theorem d_Search_siftPlaces_140 : decode b_Search_siftPlaces 140 = .ok (.iload 14, 2) := by decide +kernel
theorem d_Search_siftPlaces_142 : decode b_Search_siftPlaces 142 = .ok (.invokevirtual 127, 3) := by decide +kernel
theorem d_Search_siftPlaces_145 : decode b_Search_siftPlaces 145 = .ok (.iadd, 1) := by decide +kernel
theorem d_Search_siftPlaces_146 : decode b_Search_siftPlaces 146 = .ok (.istore 15, 2) := by decide +kernel
theorem d_Search_siftPlaces_148 : decode b_Search_siftPlaces 148 = .ok (.iload 10, 2) := by decide +kernel
theorem d_Search_siftPlaces_150 : decode b_Search_siftPlaces 150 = .ok (.ifCond .ne 16, 3) := by decide +kernel
theorem d_Search_siftPlaces_153 : decode b_Search_siftPlaces 153 = .ok (.iload 15, 2) := by decide +kernel
theorem d_Search_siftPlaces_155 : decode b_Search_siftPlaces 155 = .ok (.aload_n 0, 1) := by decide +kernel
theorem d_Search_siftPlaces_156 : decode b_Search_siftPlaces 156 = .ok (.getfield 41, 3) := by decide +kernel
theorem d_Search_siftPlaces_159 : decode b_Search_siftPlaces 159 = .ok (.if_icmp .le 7, 3) := by decide +kernel
theorem d_Search_siftPlaces_162 : decode b_Search_siftPlaces 162 = .ok (.iconst 1, 1) := by decide +kernel
