theorem d_Model_meet_0 : decode b_Model_meet 0 = .ok (.aload_n 0, 1) := by decide +kernel
theorem d_Model_meet_1 : decode b_Model_meet 1 = .ok (.getfield 29, 3) := by decide +kernel
theorem d_Model_meet_4 : decode b_Model_meet 4 = .ok (.bipush 6, 2) := by decide +kernel
theorem d_Model_meet_6 : decode b_Model_meet 6 = .ok (.iload_n 1, 1) := by decide +kernel
theorem d_Model_meet_7 : decode b_Model_meet 7 = .ok (.imul, 1) := by decide +kernel
theorem d_Model_meet_8 : decode b_Model_meet 8 = .ok (.iconst 2, 1) := by decide +kernel
theorem d_Model_meet_9 : decode b_Model_meet 9 = .ok (.iadd, 1) := by decide +kernel
theorem d_Model_meet_10 : decode b_Model_meet 10 = .ok (.iaload, 1) := by decide +kernel
theorem d_Model_meet_11 : decode b_Model_meet 11 = .ok (.aload_n 0, 1) := by decide +kernel
theorem d_Model_meet_12 : decode b_Model_meet 12 = .ok (.getfield 29, 3) := by decide +kernel
theorem d_Model_meet_15 : decode b_Model_meet 15 = .ok (.bipush 6, 2) := by decide +kernel
theorem d_Model_meet_17 : decode b_Model_meet 17 = .ok (.iload_n 1, 1) := by decide +kernel
theorem d_Model_meet_18 : decode b_Model_meet 18 = .ok (.imul, 1) := by decide +kernel
theorem d_Model_meet_19 : decode b_Model_meet 19 = .ok (.iconst 3, 1) := by decide +kernel
theorem d_Model_meet_20 : decode b_Model_meet 20 = .ok (.iadd, 1) := by decide +kernel
theorem d_Model_meet_21 : decode b_Model_meet 21 = .ok (.iaload, 1) := by decide +kernel
theorem d_Model_meet_22 : decode b_Model_meet 22 = .ok (.invokestatic 59, 3) := by decide +kernel
theorem d_Model_meet_25 : decode b_Model_meet 25 = .ok (.imul, 1) := by decide +kernel
theorem d_Model_meet_26 : decode b_Model_meet 26 = .ok (.istore_n 3, 1) := by decide +kernel
theorem d_Model_meet_27 : decode b_Model_meet 27 = .ok (.aload_n 0, 1) := by decide +kernel
theorem d_Model_meet_28 : decode b_Model_meet 28 = .ok (.getfield 29, 3) := by decide +kernel
theorem d_Model_meet_31 : decode b_Model_meet 31 = .ok (.bipush 6, 2) := by decide +kernel
theorem d_Model_meet_33 : decode b_Model_meet 33 = .ok (.iload_n 2, 1) := by decide +kernel
theorem d_Model_meet_34 : decode b_Model_meet 34 = .ok (.imul, 1) := by decide +kernel
theorem d_Model_meet_35 : decode b_Model_meet 35 = .ok (.iconst 2, 1) := by decide +kernel
theorem d_Model_meet_36 : decode b_Model_meet 36 = .ok (.iadd, 1) := by decide +kernel
theorem d_Model_meet_37 : decode b_Model_meet 37 = .ok (.iaload, 1) := by decide +kernel
theorem d_Model_meet_38 : decode b_Model_meet 38 = .ok (.aload_n 0, 1) := by decide +kernel
theorem d_Model_meet_39 : decode b_Model_meet 39 = .ok (.getfield 29, 3) := by decide +kernel
theorem d_Model_meet_42 : decode b_Model_meet 42 = .ok (.bipush 6, 2) := by decide +kernel
theorem d_Model_meet_44 : decode b_Model_meet 44 = .ok (.iload_n 2, 1) := by decide +kernel
theorem d_Model_meet_45 : decode b_Model_meet 45 = .ok (.imul, 1) := by decide +kernel
theorem d_Model_meet_46 : decode b_Model_meet 46 = .ok (.iconst 3, 1) := by decide +kernel
theorem d_Model_meet_47 : decode b_Model_meet 47 = .ok (.iadd, 1) := by decide +kernel
theorem d_Model_meet_48 : decode b_Model_meet 48 = .ok (.iaload, 1) := by decide +kernel
theorem d_Model_meet_49 : decode b_Model_meet 49 = .ok (.invokestatic 59, 3) := by decide +kernel
theorem d_Model_meet_52 : decode b_Model_meet 52 = .ok (.imul, 1) := by decide +kernel
theorem d_Model_meet_53 : decode b_Model_meet 53 = .ok (.istore 4, 2) := by decide +kernel
theorem d_Model_meet_55 : decode b_Model_meet 55 = .ok (.aload_n 0, 1) := by decide +kernel
theorem d_Model_meet_56 : decode b_Model_meet 56 = .ok (.getfield 29, 3) := by decide +kernel
theorem d_Model_meet_59 : decode b_Model_meet 59 = .ok (.bipush 6, 2) := by decide +kernel
theorem d_Model_meet_61 : decode b_Model_meet 61 = .ok (.iload_n 1, 1) := by decide +kernel
theorem d_Model_meet_62 : decode b_Model_meet 62 = .ok (.imul, 1) := by decide +kernel
theorem d_Model_meet_63 : decode b_Model_meet 63 = .ok (.iaload, 1) := by decide +kernel
theorem d_Model_meet_64 : decode b_Model_meet 64 = .ok (.aload_n 0, 1) := by decide +kernel
theorem d_Model_meet_65 : decode b_Model_meet 65 = .ok (.getfield 29, 3) := by decide +kernel
theorem d_Model_meet_68 : decode b_Model_meet 68 = .ok (.bipush 6, 2) := by decide +kernel
theorem d_Model_meet_70 : decode b_Model_meet 70 = .ok (.iload_n 2, 1) := by decide +kernel
theorem d_Model_meet_71 : decode b_Model_meet 71 = .ok (.imul, 1) := by decide +kernel
theorem d_Model_meet_72 : decode b_Model_meet 72 = .ok (.iaload, 1) := by decide +kernel
theorem d_Model_meet_73 : decode b_Model_meet 73 = .ok (.iload 4, 2) := by decide +kernel
theorem d_Model_meet_75 : decode b_Model_meet 75 = .ok (.iadd, 1) := by decide +kernel
theorem d_Model_meet_76 : decode b_Model_meet 76 = .ok (.if_icmp .ge 85, 3) := by decide +kernel
theorem d_Model_meet_79 : decode b_Model_meet 79 = .ok (.aload_n 0, 1) := by decide +kernel
theorem d_Model_meet_80 : decode b_Model_meet 80 = .ok (.getfield 29, 3) := by decide +kernel
theorem d_Model_meet_83 : decode b_Model_meet 83 = .ok (.bipush 6, 2) := by decide +kernel
theorem d_Model_meet_85 : decode b_Model_meet 85 = .ok (.iload_n 2, 1) := by decide +kernel
theorem d_Model_meet_86 : decode b_Model_meet 86 = .ok (.imul, 1) := by decide +kernel
theorem d_Model_meet_87 : decode b_Model_meet 87 = .ok (.iaload, 1) := by decide +kernel
theorem d_Model_meet_88 : decode b_Model_meet 88 = .ok (.aload_n 0, 1) := by decide +kernel
theorem d_Model_meet_89 : decode b_Model_meet 89 = .ok (.getfield 29, 3) := by decide +kernel
theorem d_Model_meet_92 : decode b_Model_meet 92 = .ok (.bipush 6, 2) := by decide +kernel
theorem d_Model_meet_94 : decode b_Model_meet 94 = .ok (.iload_n 1, 1) := by decide +kernel
theorem d_Model_meet_95 : decode b_Model_meet 95 = .ok (.imul, 1) := by decide +kernel
theorem d_Model_meet_96 : decode b_Model_meet 96 = .ok (.iaload, 1) := by decide +kernel
theorem d_Model_meet_97 : decode b_Model_meet 97 = .ok (.iload_n 3, 1) := by decide +kernel
theorem d_Model_meet_98 : decode b_Model_meet 98 = .ok (.iadd, 1) := by decide +kernel
theorem d_Model_meet_99 : decode b_Model_meet 99 = .ok (.if_icmp .ge 62, 3) := by decide +kernel
theorem d_Model_meet_102 : decode b_Model_meet 102 = .ok (.aload_n 0, 1) := by decide +kernel
theorem d_Model_meet_103 : decode b_Model_meet 103 = .ok (.getfield 29, 3) := by decide +kernel
theorem d_Model_meet_106 : decode b_Model_meet 106 = .ok (.bipush 6, 2) := by decide +kernel
theorem d_Model_meet_108 : decode b_Model_meet 108 = .ok (.iload_n 1, 1) := by decide +kernel
theorem d_Model_meet_109 : decode b_Model_meet 109 = .ok (.imul, 1) := by decide +kernel
theorem d_Model_meet_110 : decode b_Model_meet 110 = .ok (.iconst 1, 1) := by decide +kernel
theorem d_Model_meet_111 : decode b_Model_meet 111 = .ok (.iadd, 1) := by decide +kernel
theorem d_Model_meet_112 : decode b_Model_meet 112 = .ok (.iaload, 1) := by decide +kernel
theorem d_Model_meet_113 : decode b_Model_meet 113 = .ok (.aload_n 0, 1) := by decide +kernel
theorem d_Model_meet_114 : decode b_Model_meet 114 = .ok (.getfield 29, 3) := by decide +kernel
theorem d_Model_meet_117 : decode b_Model_meet 117 = .ok (.bipush 6, 2) := by decide +kernel
theorem d_Model_meet_119 : decode b_Model_meet 119 = .ok (.iload_n 2, 1) := by decide +kernel
theorem d_Model_meet_120 : decode b_Model_meet 120 = .ok (.imul, 1) := by decide +kernel
theorem d_Model_meet_121 : decode b_Model_meet 121 = .ok (.iconst 1, 1) := by decide +kernel
theorem d_Model_meet_122 : decode b_Model_meet 122 = .ok (.iadd, 1) := by decide +kernel
theorem d_Model_meet_123 : decode b_Model_meet 123 = .ok (.iaload, 1) := by decide +kernel
theorem d_Model_meet_124 : decode b_Model_meet 124 = .ok (.iload 4, 2) := by decide +kernel
theorem d_Model_meet_126 : decode b_Model_meet 126 = .ok (.iadd, 1) := by decide +kernel
theorem d_Model_meet_127 : decode b_Model_meet 127 = .ok (.if_icmp .ge 34, 3) := by decide +kernel
theorem d_Model_meet_130 : decode b_Model_meet 130 = .ok (.aload_n 0, 1) := by decide +kernel
theorem d_Model_meet_131 : decode b_Model_meet 131 = .ok (.getfield 29, 3) := by decide +kernel
theorem d_Model_meet_134 : decode b_Model_meet 134 = .ok (.bipush 6, 2) := by decide +kernel
theorem d_Model_meet_136 : decode b_Model_meet 136 = .ok (.iload_n 2, 1) := by decide +kernel
theorem d_Model_meet_137 : decode b_Model_meet 137 = .ok (.imul, 1) := by decide +kernel
theorem d_Model_meet_138 : decode b_Model_meet 138 = .ok (.iconst 1, 1) := by decide +kernel
theorem d_Model_meet_139 : decode b_Model_meet 139 = .ok (.iadd, 1) := by decide +kernel
theorem d_Model_meet_140 : decode b_Model_meet 140 = .ok (.iaload, 1) := by decide +kernel
theorem d_Model_meet_141 : decode b_Model_meet 141 = .ok (.aload_n 0, 1) := by decide +kernel
theorem d_Model_meet_142 : decode b_Model_meet 142 = .ok (.getfield 29, 3) := by decide +kernel
theorem d_Model_meet_145 : decode b_Model_meet 145 = .ok (.bipush 6, 2) := by decide +kernel
theorem d_Model_meet_147 : decode b_Model_meet 147 = .ok (.iload_n 1, 1) := by decide +kernel
theorem d_Model_meet_148 : decode b_Model_meet 148 = .ok (.imul, 1) := by decide +kernel
theorem d_Model_meet_149 : decode b_Model_meet 149 = .ok (.iconst 1, 1) := by decide +kernel
theorem d_Model_meet_150 : decode b_Model_meet 150 = .ok (.iadd, 1) := by decide +kernel
theorem d_Model_meet_151 : decode b_Model_meet 151 = .ok (.iaload, 1) := by decide +kernel
theorem d_Model_meet_152 : decode b_Model_meet 152 = .ok (.iload_n 3, 1) := by decide +kernel
theorem d_Model_meet_153 : decode b_Model_meet 153 = .ok (.iadd, 1) := by decide +kernel
theorem d_Model_meet_154 : decode b_Model_meet 154 = .ok (.if_icmp .ge 7, 3) := by decide +kernel
theorem d_Model_meet_157 : decode b_Model_meet 157 = .ok (.iconst 1, 1) := by decide +kernel
theorem d_Model_meet_158 : decode b_Model_meet 158 = .ok (.goto 4, 3) := by decide +kernel
theorem d_Model_meet_161 : decode b_Model_meet 161 = .ok (.iconst 0, 1) := by decide +kernel
theorem d_Model_meet_162 : decode b_Model_meet 162 = .ok (.ireturn, 1) := by decide +kernel
theorem d_Model_leads_0 : decode b_Model_leads 0 = .ok (.iconst 0, 1) := by decide +kernel
theorem d_Model_leads_1 : decode b_Model_leads 1 = .ok (.istore_n 2, 1) := by decide +kernel
theorem d_Model_leads_2 : decode b_Model_leads 2 = .ok (.iload_n 2, 1) := by decide +kernel
theorem d_Model_leads_3 : decode b_Model_leads 3 = .ok (.aload_n 0, 1) := by decide +kernel
theorem d_Model_leads_4 : decode b_Model_leads 4 = .ok (.getfield 38, 3) := by decide +kernel
theorem d_Model_leads_7 : decode b_Model_leads 7 = .ok (.if_icmp .ge 66, 3) := by decide +kernel
theorem d_Model_leads_10 : decode b_Model_leads 10 = .ok (.aload_n 0, 1) := by decide +kernel
theorem d_Model_leads_11 : decode b_Model_leads 11 = .ok (.getfield 29, 3) := by decide +kernel
theorem d_Model_leads_14 : decode b_Model_leads 14 = .ok (.bipush 6, 2) := by decide +kernel
theorem d_Model_leads_16 : decode b_Model_leads 16 = .ok (.iload_n 2, 1) := by decide +kernel
theorem d_Model_leads_17 : decode b_Model_leads 17 = .ok (.imul, 1) := by decide +kernel
theorem d_Model_leads_18 : decode b_Model_leads 18 = .ok (.iconst 5, 1) := by decide +kernel
theorem d_Model_leads_19 : decode b_Model_leads 19 = .ok (.iadd, 1) := by decide +kernel
theorem d_Model_leads_20 : decode b_Model_leads 20 = .ok (.iaload, 1) := by decide +kernel
theorem d_Model_leads_21 : decode b_Model_leads 21 = .ok (.aload_n 0, 1) := by decide +kernel
theorem d_Model_leads_22 : decode b_Model_leads 22 = .ok (.getfield 29, 3) := by decide +kernel
theorem d_Model_leads_25 : decode b_Model_leads 25 = .ok (.bipush 6, 2) := by decide +kernel
theorem d_Model_leads_27 : decode b_Model_leads 27 = .ok (.iload_n 1, 1) := by decide +kernel
theorem d_Model_leads_28 : decode b_Model_leads 28 = .ok (.imul, 1) := by decide +kernel
theorem d_Model_leads_29 : decode b_Model_leads 29 = .ok (.iconst 5, 1) := by decide +kernel
theorem d_Model_leads_30 : decode b_Model_leads 30 = .ok (.iadd, 1) := by decide +kernel
theorem d_Model_leads_31 : decode b_Model_leads 31 = .ok (.iaload, 1) := by decide +kernel
theorem d_Model_leads_32 : decode b_Model_leads 32 = .ok (.isub, 1) := by decide +kernel
theorem d_Model_leads_33 : decode b_Model_leads 33 = .ok (.istore_n 3, 1) := by decide +kernel
theorem d_Model_leads_34 : decode b_Model_leads 34 = .ok (.iload_n 2, 1) := by decide +kernel
theorem d_Model_leads_35 : decode b_Model_leads 35 = .ok (.iload_n 1, 1) := by decide +kernel
theorem d_Model_leads_36 : decode b_Model_leads 36 = .ok (.if_icmp .eq 31, 3) := by decide +kernel
theorem d_Model_leads_39 : decode b_Model_leads 39 = .ok (.aload_n 0, 1) := by decide +kernel
theorem d_Model_leads_40 : decode b_Model_leads 40 = .ok (.iload_n 1, 1) := by decide +kernel
theorem d_Model_leads_41 : decode b_Model_leads 41 = .ok (.iload_n 2, 1) := by decide +kernel
theorem d_Model_leads_42 : decode b_Model_leads 42 = .ok (.invokevirtual 102, 3) := by decide +kernel
theorem d_Model_leads_45 : decode b_Model_leads 45 = .ok (.ifCond .eq 22, 3) := by decide +kernel
theorem d_Model_leads_48 : decode b_Model_leads 48 = .ok (.iload_n 3, 1) := by decide +kernel
theorem d_Model_leads_49 : decode b_Model_leads 49 = .ok (.ifCond .lt 16, 3) := by decide +kernel
theorem d_Model_leads_52 : decode b_Model_leads 52 = .ok (.iload_n 3, 1) := by decide +kernel
theorem d_Model_leads_53 : decode b_Model_leads 53 = .ok (.ifCond .ne 14, 3) := by decide +kernel
theorem d_Model_leads_56 : decode b_Model_leads 56 = .ok (.aload_n 0, 1) := by decide +kernel
theorem d_Model_leads_57 : decode b_Model_leads 57 = .ok (.iload_n 2, 1) := by decide +kernel
theorem d_Model_leads_58 : decode b_Model_leads 58 = .ok (.iload_n 1, 1) := by decide +kernel
theorem d_Model_leads_59 : decode b_Model_leads 59 = .ok (.invokevirtual 105, 3) := by decide +kernel
theorem d_Model_leads_62 : decode b_Model_leads 62 = .ok (.ifCond .eq 5, 3) := by decide +kernel
theorem d_Model_leads_65 : decode b_Model_leads 65 = .ok (.iconst 0, 1) := by decide +kernel
theorem d_Model_leads_66 : decode b_Model_leads 66 = .ok (.ireturn, 1) := by decide +kernel
theorem d_Model_leads_67 : decode b_Model_leads 67 = .ok (.iinc 2 1, 3) := by decide +kernel
theorem d_Model_leads_70 : decode b_Model_leads 70 = .ok (.goto (-68), 3) := by decide +kernel
theorem d_Model_leads_73 : decode b_Model_leads 73 = .ok (.iconst 1, 1) := by decide +kernel
theorem d_Model_leads_74 : decode b_Model_leads 74 = .ok (.ireturn, 1) := by decide +kernel
theorem d_Model_order_0 : decode b_Model_order 0 = .ok (.iconst (-1), 1) := by decide +kernel
theorem d_Model_order_1 : decode b_Model_order 1 = .ok (.istore_n 1, 1) := by decide +kernel
theorem d_Model_order_2 : decode b_Model_order 2 = .ok (.iconst 1, 1) := by decide +kernel
theorem d_Model_order_3 : decode b_Model_order 3 = .ok (.istore_n 2, 1) := by decide +kernel
theorem d_Model_order_4 : decode b_Model_order 4 = .ok (.iload_n 2, 1) := by decide +kernel
theorem d_Model_order_5 : decode b_Model_order 5 = .ok (.ifCond .eq 158, 3) := by decide +kernel
theorem d_Model_order_8 : decode b_Model_order 8 = .ok (.iconst (-1), 1) := by decide +kernel
theorem d_Model_order_9 : decode b_Model_order 9 = .ok (.istore_n 3, 1) := by decide +kernel
theorem d_Model_order_10 : decode b_Model_order 10 = .ok (.iconst 0, 1) := by decide +kernel
theorem d_Model_order_11 : decode b_Model_order 11 = .ok (.istore 4, 2) := by decide +kernel
theorem d_Model_order_13 : decode b_Model_order 13 = .ok (.iload 4, 2) := by decide +kernel
theorem d_Model_order_15 : decode b_Model_order 15 = .ok (.aload_n 0, 1) := by decide +kernel
theorem d_Model_order_16 : decode b_Model_order 16 = .ok (.getfield 38, 3) := by decide +kernel
theorem d_Model_order_19 : decode b_Model_order 19 = .ok (.if_icmp .ge 61, 3) := by decide +kernel
theorem d_Model_order_22 : decode b_Model_order 22 = .ok (.iload_n 1, 1) := by decide +kernel
theorem d_Model_order_23 : decode b_Model_order 23 = .ok (.ifCond .lt 13, 3) := by decide +kernel
theorem d_Model_order_26 : decode b_Model_order 26 = .ok (.aload_n 0, 1) := by decide +kernel
theorem d_Model_order_27 : decode b_Model_order 27 = .ok (.iload_n 1, 1) := by decide +kernel
theorem d_Model_order_28 : decode b_Model_order 28 = .ok (.iload 4, 2) := by decide +kernel
theorem d_Model_order_30 : decode b_Model_order 30 = .ok (.invokevirtual 105, 3) := by decide +kernel
theorem d_Model_order_33 : decode b_Model_order 33 = .ok (.ifCond .eq 7, 3) := by decide +kernel
theorem d_Model_order_36 : decode b_Model_order 36 = .ok (.iconst 1, 1) := by decide +kernel
theorem d_Model_order_37 : decode b_Model_order 37 = .ok (.goto 4, 3) := by decide +kernel
theorem d_Model_order_40 : decode b_Model_order 40 = .ok (.iconst 0, 1) := by decide +kernel
theorem d_Model_order_41 : decode b_Model_order 41 = .ok (.istore 5, 2) := by decide +kernel
theorem d_Model_order_43 : decode b_Model_order 43 = .ok (.iload 5, 2) := by decide +kernel
theorem d_Model_order_45 : decode b_Model_order 45 = .ok (.ifCond .eq 29, 3) := by decide +kernel
theorem d_Model_order_48 : decode b_Model_order 48 = .ok (.aload_n 0, 1) := by decide +kernel
theorem d_Model_order_49 : decode b_Model_order 49 = .ok (.iload 4, 2) := by decide +kernel
theorem d_Model_order_51 : decode b_Model_order 51 = .ok (.invokevirtual 108, 3) := by decide +kernel
theorem d_Model_order_54 : decode b_Model_order 54 = .ok (.ifCond .eq 20, 3) := by decide +kernel
theorem d_Model_order_57 : decode b_Model_order 57 = .ok (.iload_n 3, 1) := by decide +kernel
theorem d_Model_order_58 : decode b_Model_order 58 = .ok (.ifCond .lt 13, 3) := by decide +kernel
theorem d_Model_order_61 : decode b_Model_order 61 = .ok (.aload_n 0, 1) := by decide +kernel
theorem d_Model_order_62 : decode b_Model_order 62 = .ok (.iload 4, 2) := by decide +kernel
theorem d_Model_order_64 : decode b_Model_order 64 = .ok (.iload_n 3, 1) := by decide +kernel
theorem d_Model_order_65 : decode b_Model_order 65 = .ok (.invokevirtual 105, 3) := by decide +kernel
theorem d_Model_order_68 : decode b_Model_order 68 = .ok (.ifCond .eq 6, 3) := by decide +kernel
theorem d_Model_order_71 : decode b_Model_order 71 = .ok (.iload 4, 2) := by decide +kernel
theorem d_Model_order_73 : decode b_Model_order 73 = .ok (.istore_n 3, 1) := by decide +kernel
theorem d_Model_order_74 : decode b_Model_order 74 = .ok (.iinc 4 1, 3) := by decide +kernel
theorem d_Model_order_77 : decode b_Model_order 77 = .ok (.goto (-64), 3) := by decide +kernel
theorem d_Model_order_80 : decode b_Model_order 80 = .ok (.iload_n 3, 1) := by decide +kernel
theorem d_Model_order_81 : decode b_Model_order 81 = .ok (.ifCond .lt 7, 3) := by decide +kernel
theorem d_Model_order_84 : decode b_Model_order 84 = .ok (.iconst 1, 1) := by decide +kernel
theorem d_Model_order_85 : decode b_Model_order 85 = .ok (.goto 4, 3) := by decide +kernel
theorem d_Model_order_88 : decode b_Model_order 88 = .ok (.iconst 0, 1) := by decide +kernel
theorem d_Model_order_89 : decode b_Model_order 89 = .ok (.istore_n 2, 1) := by decide +kernel
theorem d_Model_order_90 : decode b_Model_order 90 = .ok (.iconst 0, 1) := by decide +kernel
theorem d_Model_order_91 : decode b_Model_order 91 = .ok (.istore 4, 2) := by decide +kernel
theorem d_Model_order_93 : decode b_Model_order 93 = .ok (.iload 4, 2) := by decide +kernel
theorem d_Model_order_95 : decode b_Model_order 95 = .ok (.bipush 6, 2) := by decide +kernel
theorem d_Model_order_97 : decode b_Model_order 97 = .ok (.if_icmp .ge 40, 3) := by decide +kernel
theorem d_Model_order_100 : decode b_Model_order 100 = .ok (.iload_n 2, 1) := by decide +kernel
theorem d_Model_order_101 : decode b_Model_order 101 = .ok (.ifCond .eq 36, 3) := by decide +kernel
theorem d_Model_order_104 : decode b_Model_order 104 = .ok (.aload_n 0, 1) := by decide +kernel
theorem d_Model_order_105 : decode b_Model_order 105 = .ok (.getfield 32, 3) := by decide +kernel
theorem d_Model_order_108 : decode b_Model_order 108 = .ok (.bipush 6, 2) := by decide +kernel
theorem d_Model_order_110 : decode b_Model_order 110 = .ok (.aload_n 0, 1) := by decide +kernel
theorem d_Model_order_111 : decode b_Model_order 111 = .ok (.getfield 41, 3) := by decide +kernel
theorem d_Model_order_114 : decode b_Model_order 114 = .ok (.imul, 1) := by decide +kernel
theorem d_Model_order_115 : decode b_Model_order 115 = .ok (.iload 4, 2) := by decide +kernel
theorem d_Model_order_117 : decode b_Model_order 117 = .ok (.iadd, 1) := by decide +kernel
theorem d_Model_order_118 : decode b_Model_order 118 = .ok (.aload_n 0, 1) := by decide +kernel
theorem d_Model_order_119 : decode b_Model_order 119 = .ok (.getfield 29, 3) := by decide +kernel
theorem d_Model_order_122 : decode b_Model_order 122 = .ok (.bipush 6, 2) := by decide +kernel
theorem d_Model_order_124 : decode b_Model_order 124 = .ok (.iload_n 3, 1) := by decide +kernel
theorem d_Model_order_125 : decode b_Model_order 125 = .ok (.imul, 1) := by decide +kernel
theorem d_Model_order_126 : decode b_Model_order 126 = .ok (.iload 4, 2) := by decide +kernel
theorem d_Model_order_128 : decode b_Model_order 128 = .ok (.iadd, 1) := by decide +kernel
theorem d_Model_order_129 : decode b_Model_order 129 = .ok (.iaload, 1) := by decide +kernel
theorem d_Model_order_130 : decode b_Model_order 130 = .ok (.iastore, 1) := by decide +kernel
theorem d_Model_order_131 : decode b_Model_order 131 = .ok (.iinc 4 1, 3) := by decide +kernel
theorem d_Model_order_134 : decode b_Model_order 134 = .ok (.goto (-41), 3) := by decide +kernel
theorem d_Model_order_137 : decode b_Model_order 137 = .ok (.aload_n 0, 1) := by decide +kernel
theorem d_Model_order_138 : decode b_Model_order 138 = .ok (.iload_n 2, 1) := by decide +kernel
theorem d_Model_order_139 : decode b_Model_order 139 = .ok (.ifCond .eq 12, 3) := by decide +kernel
theorem d_Model_order_142 : decode b_Model_order 142 = .ok (.aload_n 0, 1) := by decide +kernel
theorem d_Model_order_143 : decode b_Model_order 143 = .ok (.getfield 41, 3) := by decide +kernel
theorem d_Model_order_146 : decode b_Model_order 146 = .ok (.iconst 1, 1) := by decide +kernel
theorem d_Model_order_147 : decode b_Model_order 147 = .ok (.iadd, 1) := by decide +kernel
theorem d_Model_order_148 : decode b_Model_order 148 = .ok (.goto 7, 3) := by decide +kernel
theorem d_Model_order_151 : decode b_Model_order 151 = .ok (.aload_n 0, 1) := by decide +kernel
theorem d_Model_order_152 : decode b_Model_order 152 = .ok (.getfield 41, 3) := by decide +kernel
theorem d_Model_order_155 : decode b_Model_order 155 = .ok (.putfield 41, 3) := by decide +kernel
theorem d_Model_order_158 : decode b_Model_order 158 = .ok (.iload_n 3, 1) := by decide +kernel
theorem d_Model_order_159 : decode b_Model_order 159 = .ok (.istore_n 1, 1) := by decide +kernel
theorem d_Model_order_160 : decode b_Model_order 160 = .ok (.goto (-156), 3) := by decide +kernel
theorem d_Model_order_163 : decode b_Model_order 163 = .ok (.return_, 1) := by decide +kernel
theorem d_Model_find_0 : decode b_Model_find 0 = .ok (.aload_n 0, 1) := by decide +kernel
theorem d_Model_find_1 : decode b_Model_find 1 = .ok (.iload_n 1, 1) := by decide +kernel
theorem d_Model_find_2 : decode b_Model_find 2 = .ok (.iconst 1, 1) := by decide +kernel
theorem d_Model_find_3 : decode b_Model_find 3 = .ok (.if_icmp .lt 31, 3) := by decide +kernel
theorem d_Model_find_6 : decode b_Model_find 6 = .ok (.iload_n 1, 1) := by decide +kernel
theorem d_Model_find_7 : decode b_Model_find 7 = .ok (.bipush 16, 2) := by decide +kernel
theorem d_Model_find_9 : decode b_Model_find 9 = .ok (.if_icmp .gt 25, 3) := by decide +kernel
theorem d_Model_find_12 : decode b_Model_find 12 = .ok (.iload_n 2, 1) := by decide +kernel
theorem d_Model_find_13 : decode b_Model_find 13 = .ok (.iload_n 1, 1) := by decide +kernel
theorem d_Model_find_14 : decode b_Model_find 14 = .ok (.if_icmp .lt 20, 3) := by decide +kernel
theorem d_Model_find_17 : decode b_Model_find 17 = .ok (.iload_n 2, 1) := by decide +kernel
theorem d_Model_find_18 : decode b_Model_find 18 = .ok (.bipush 16, 2) := by decide +kernel
theorem d_Model_find_20 : decode b_Model_find 20 = .ok (.if_icmp .gt 14, 3) := by decide +kernel
theorem d_Model_find_23 : decode b_Model_find 23 = .ok (.iload_n 3, 1) := by decide +kernel
theorem d_Model_find_24 : decode b_Model_find 24 = .ok (.ifCond .lt 10, 3) := by decide +kernel
theorem d_Model_find_27 : decode b_Model_find 27 = .ok (.iload_n 3, 1) := by decide +kernel
theorem d_Model_find_28 : decode b_Model_find 28 = .ok (.sipush 500, 3) := by decide +kernel
theorem d_Model_find_31 : decode b_Model_find 31 = .ok (.if_icmp .le 7, 3) := by decide +kernel
theorem d_Model_find_34 : decode b_Model_find 34 = .ok (.iconst 1, 1) := by decide +kernel
theorem d_Model_find_35 : decode b_Model_find 35 = .ok (.goto 4, 3) := by decide +kernel
theorem d_Model_find_38 : decode b_Model_find 38 = .ok (.iconst 0, 1) := by decide +kernel
theorem d_Model_find_39 : decode b_Model_find 39 = .ok (.putfield 35, 3) := by decide +kernel
theorem d_Model_find_42 : decode b_Model_find 42 = .ok (.aload_n 0, 1) := by decide +kernel
theorem d_Model_find_43 : decode b_Model_find 43 = .ok (.getfield 35, 3) := by decide +kernel
theorem d_Model_find_46 : decode b_Model_find 46 = .ok (.ifCond .le 5, 3) := by decide +kernel
theorem d_Model_find_49 : decode b_Model_find 49 = .ok (.iconst 0, 1) := by decide +kernel
theorem d_Model_find_50 : decode b_Model_find 50 = .ok (.ireturn, 1) := by decide +kernel
theorem d_Model_find_51 : decode b_Model_find 51 = .ok (.aload_n 0, 1) := by decide +kernel
theorem d_Model_find_52 : decode b_Model_find 52 = .ok (.invokevirtual 44, 3) := by decide +kernel
theorem d_Model_find_55 : decode b_Model_find 55 = .ok (.aload_n 0, 1) := by decide +kernel
theorem d_Model_find_56 : decode b_Model_find 56 = .ok (.invokevirtual 112, 3) := by decide +kernel
theorem d_Model_find_59 : decode b_Model_find 59 = .ok (.iconst 1, 1) := by decide +kernel
theorem d_Model_find_60 : decode b_Model_find 60 = .ok (.istore 4, 2) := by decide +kernel
theorem d_Model_find_62 : decode b_Model_find 62 = .ok (.iload 4, 2) := by decide +kernel
theorem d_Model_find_64 : decode b_Model_find 64 = .ok (.bipush 40, 2) := by decide +kernel
theorem d_Model_find_66 : decode b_Model_find 66 = .ok (.if_icmp .gt 48, 3) := by decide +kernel
theorem d_Model_find_69 : decode b_Model_find 69 = .ok (.aload_n 0, 1) := by decide +kernel
theorem d_Model_find_70 : decode b_Model_find 70 = .ok (.iload 4, 2) := by decide +kernel
theorem d_Model_find_72 : decode b_Model_find 72 = .ok (.invokevirtual 115, 3) := by decide +kernel
theorem d_Model_find_75 : decode b_Model_find 75 = .ok (.iload_n 1, 1) := by decide +kernel
theorem d_Model_find_76 : decode b_Model_find 76 = .ok (.istore 5, 2) := by decide +kernel
theorem d_Model_find_78 : decode b_Model_find 78 = .ok (.iload 5, 2) := by decide +kernel
theorem d_Model_find_80 : decode b_Model_find 80 = .ok (.iload_n 2, 1) := by decide +kernel
theorem d_Model_find_81 : decode b_Model_find 81 = .ok (.if_icmp .gt 27, 3) := by decide +kernel
theorem d_Model_find_84 : decode b_Model_find 84 = .ok (.aload_n 0, 1) := by decide +kernel
theorem d_Model_find_85 : decode b_Model_find 85 = .ok (.iload 5, 2) := by decide +kernel
theorem d_Model_find_87 : decode b_Model_find 87 = .ok (.iload 4, 2) := by decide +kernel
theorem d_Model_find_89 : decode b_Model_find 89 = .ok (.iload_n 3, 1) := by decide +kernel
theorem d_Model_find_90 : decode b_Model_find 90 = .ok (.invokevirtual 119, 3) := by decide +kernel
theorem d_Model_find_93 : decode b_Model_find 93 = .ok (.ifCond .ne 9, 3) := by decide +kernel
theorem d_Model_find_96 : decode b_Model_find 96 = .ok (.aload_n 0, 1) := by decide +kernel
theorem d_Model_find_97 : decode b_Model_find 97 = .ok (.invokevirtual 44, 3) := by decide +kernel
theorem d_Model_find_100 : decode b_Model_find 100 = .ok (.iconst (-1), 1) := by decide +kernel
theorem d_Model_find_101 : decode b_Model_find 101 = .ok (.ireturn, 1) := by decide +kernel
theorem d_Model_find_102 : decode b_Model_find 102 = .ok (.iinc 5 1, 3) := by decide +kernel
theorem d_Model_find_105 : decode b_Model_find 105 = .ok (.goto (-27), 3) := by decide +kernel
theorem d_Model_find_108 : decode b_Model_find 108 = .ok (.iinc 4 1, 3) := by decide +kernel
theorem d_Model_find_111 : decode b_Model_find 111 = .ok (.goto (-49), 3) := by decide +kernel
theorem d_Model_find_114 : decode b_Model_find 114 = .ok (.aload_n 0, 1) := by decide +kernel
theorem d_Model_find_115 : decode b_Model_find 115 = .ok (.invokevirtual 122, 3) := by decide +kernel
theorem d_Model_find_118 : decode b_Model_find 118 = .ok (.aload_n 0, 1) := by decide +kernel
theorem d_Model_find_119 : decode b_Model_find 119 = .ok (.getfield 41, 3) := by decide +kernel
theorem d_Model_find_122 : decode b_Model_find 122 = .ok (.ireturn, 1) := by decide +kernel
theorem d_Model_stood_0 : decode b_Model_stood 0 = .ok (.aload_n 0, 1) := by decide +kernel
theorem d_Model_stood_1 : decode b_Model_stood 1 = .ok (.iconst 0, 1) := by decide +kernel
theorem d_Model_stood_2 : decode b_Model_stood 2 = .ok (.putfield 35, 3) := by decide +kernel
theorem d_Model_stood_5 : decode b_Model_stood 5 = .ok (.aload_n 0, 1) := by decide +kernel
theorem d_Model_stood_6 : decode b_Model_stood 6 = .ok (.getfield 38, 3) := by decide +kernel
theorem d_Model_stood_9 : decode b_Model_stood 9 = .ok (.ireturn, 1) := by decide +kernel
theorem d_Model_place_0 : decode b_Model_place 0 = .ok (.aload_n 0, 1) := by decide +kernel
theorem d_Model_place_1 : decode b_Model_place 1 = .ok (.iload_n 2, 1) := by decide +kernel
theorem d_Model_place_2 : decode b_Model_place 2 = .ok (.ifCond .lt 8, 3) := by decide +kernel
theorem d_Model_place_5 : decode b_Model_place 5 = .ok (.iload_n 2, 1) := by decide +kernel
theorem d_Model_place_6 : decode b_Model_place 6 = .ok (.iconst 5, 1) := by decide +kernel
theorem d_Model_place_7 : decode b_Model_place 7 = .ok (.if_icmp .le 7, 3) := by decide +kernel
theorem d_Model_place_10 : decode b_Model_place 10 = .ok (.iconst 1, 1) := by decide +kernel
theorem d_Model_place_11 : decode b_Model_place 11 = .ok (.goto 4, 3) := by decide +kernel
theorem d_Model_place_14 : decode b_Model_place 14 = .ok (.iconst 0, 1) := by decide +kernel
theorem d_Model_place_15 : decode b_Model_place 15 = .ok (.putfield 35, 3) := by decide +kernel
theorem d_Model_place_18 : decode b_Model_place 18 = .ok (.aload_n 0, 1) := by decide +kernel
theorem d_Model_place_19 : decode b_Model_place 19 = .ok (.getfield 35, 3) := by decide +kernel
theorem d_Model_place_22 : decode b_Model_place 22 = .ok (.ifCond .le 5, 3) := by decide +kernel
theorem d_Model_place_25 : decode b_Model_place 25 = .ok (.iconst 0, 1) := by decide +kernel
theorem d_Model_place_26 : decode b_Model_place 26 = .ok (.ireturn, 1) := by decide +kernel
theorem d_Model_place_27 : decode b_Model_place 27 = .ok (.iload_n 1, 1) := by decide +kernel
theorem d_Model_place_28 : decode b_Model_place 28 = .ok (.ifCond .lt 11, 3) := by decide +kernel
theorem d_Model_place_31 : decode b_Model_place 31 = .ok (.iload_n 1, 1) := by decide +kernel
theorem d_Model_place_32 : decode b_Model_place 32 = .ok (.aload_n 0, 1) := by decide +kernel
theorem d_Model_place_33 : decode b_Model_place 33 = .ok (.getfield 41, 3) := by decide +kernel
theorem d_Model_place_36 : decode b_Model_place 36 = .ok (.if_icmp .lt 7, 3) := by decide +kernel
theorem d_Model_place_39 : decode b_Model_place 39 = .ok (.iconst (-1), 1) := by decide +kernel
theorem d_Model_place_40 : decode b_Model_place 40 = .ok (.goto 14, 3) := by decide +kernel
theorem d_Model_place_43 : decode b_Model_place 43 = .ok (.aload_n 0, 1) := by decide +kernel
theorem d_Model_place_44 : decode b_Model_place 44 = .ok (.getfield 32, 3) := by decide +kernel
theorem d_Model_place_47 : decode b_Model_place 47 = .ok (.bipush 6, 2) := by decide +kernel
theorem d_Model_place_49 : decode b_Model_place 49 = .ok (.iload_n 1, 1) := by decide +kernel
theorem d_Model_place_50 : decode b_Model_place 50 = .ok (.imul, 1) := by decide +kernel
theorem d_Model_place_51 : decode b_Model_place 51 = .ok (.iload_n 2, 1) := by decide +kernel
theorem d_Model_place_52 : decode b_Model_place 52 = .ok (.iadd, 1) := by decide +kernel
theorem d_Model_place_53 : decode b_Model_place 53 = .ok (.iaload, 1) := by decide +kernel
theorem d_Model_place_54 : decode b_Model_place 54 = .ok (.ireturn, 1) := by decide +kernel
theorem d_Model_modules_0 : decode b_Model_modules 0 = .ok (.aload_n 0, 1) := by decide +kernel
theorem d_Model_modules_1 : decode b_Model_modules 1 = .ok (.iload_n 1, 1) := by decide +kernel
theorem d_Model_modules_2 : decode b_Model_modules 2 = .ok (.ifCond .lt 11, 3) := by decide +kernel
theorem d_Model_modules_5 : decode b_Model_modules 5 = .ok (.iload_n 1, 1) := by decide +kernel
theorem d_Model_modules_6 : decode b_Model_modules 6 = .ok (.aload_n 0, 1) := by decide +kernel
theorem d_Model_modules_7 : decode b_Model_modules 7 = .ok (.getfield 41, 3) := by decide +kernel
theorem d_Model_modules_10 : decode b_Model_modules 10 = .ok (.if_icmp .lt 7, 3) := by decide +kernel
theorem d_Model_modules_13 : decode b_Model_modules 13 = .ok (.iconst 1, 1) := by decide +kernel
theorem d_Model_modules_14 : decode b_Model_modules 14 = .ok (.goto 4, 3) := by decide +kernel
theorem d_Model_modules_17 : decode b_Model_modules 17 = .ok (.iconst 0, 1) := by decide +kernel
theorem d_Model_modules_18 : decode b_Model_modules 18 = .ok (.putfield 35, 3) := by decide +kernel
theorem d_Model_modules_21 : decode b_Model_modules 21 = .ok (.aload_n 0, 1) := by decide +kernel
theorem d_Model_modules_22 : decode b_Model_modules 22 = .ok (.getfield 35, 3) := by decide +kernel
theorem d_Model_modules_25 : decode b_Model_modules 25 = .ok (.ifCond .le 5, 3) := by decide +kernel
theorem d_Model_modules_28 : decode b_Model_modules 28 = .ok (.lconst 0, 1) := by decide +kernel
theorem d_Model_modules_29 : decode b_Model_modules 29 = .ok (.lreturn, 1) := by decide +kernel
theorem d_Model_modules_30 : decode b_Model_modules 30 = .ok (.aload_n 0, 1) := by decide +kernel
theorem d_Model_modules_31 : decode b_Model_modules 31 = .ok (.getfield 32, 3) := by decide +kernel
theorem d_Model_modules_34 : decode b_Model_modules 34 = .ok (.bipush 6, 2) := by decide +kernel
theorem d_Model_modules_36 : decode b_Model_modules 36 = .ok (.iload_n 1, 1) := by decide +kernel
theorem d_Model_modules_37 : decode b_Model_modules 37 = .ok (.imul, 1) := by decide +kernel
theorem d_Model_modules_38 : decode b_Model_modules 38 = .ok (.iconst 2, 1) := by decide +kernel
theorem d_Model_modules_39 : decode b_Model_modules 39 = .ok (.iadd, 1) := by decide +kernel
theorem d_Model_modules_40 : decode b_Model_modules 40 = .ok (.iaload, 1) := by decide +kernel
theorem d_Model_modules_41 : decode b_Model_modules 41 = .ok (.istore 4, 2) := by decide +kernel
theorem d_Model_modules_43 : decode b_Model_modules 43 = .ok (.aload_n 0, 1) := by decide +kernel
theorem d_Model_modules_44 : decode b_Model_modules 44 = .ok (.getfield 32, 3) := by decide +kernel
theorem d_Model_modules_47 : decode b_Model_modules 47 = .ok (.bipush 6, 2) := by decide +kernel
theorem d_Model_modules_49 : decode b_Model_modules 49 = .ok (.iload_n 1, 1) := by decide +kernel
theorem d_Model_modules_50 : decode b_Model_modules 50 = .ok (.imul, 1) := by decide +kernel
theorem d_Model_modules_51 : decode b_Model_modules 51 = .ok (.iconst 3, 1) := by decide +kernel
theorem d_Model_modules_52 : decode b_Model_modules 52 = .ok (.iadd, 1) := by decide +kernel
theorem d_Model_modules_53 : decode b_Model_modules 53 = .ok (.iaload, 1) := by decide +kernel
theorem d_Model_modules_54 : decode b_Model_modules 54 = .ok (.invokestatic 59, 3) := by decide +kernel
theorem d_Model_modules_57 : decode b_Model_modules 57 = .ok (.istore 5, 2) := by decide +kernel
theorem d_Model_modules_59 : decode b_Model_modules 59 = .ok (.aload_n 0, 1) := by decide +kernel
theorem d_Model_modules_60 : decode b_Model_modules 60 = .ok (.getfield 32, 3) := by decide +kernel
theorem d_Model_modules_63 : decode b_Model_modules 63 = .ok (.bipush 6, 2) := by decide +kernel
theorem d_Model_modules_65 : decode b_Model_modules 65 = .ok (.iload_n 1, 1) := by decide +kernel
theorem d_Model_modules_66 : decode b_Model_modules 66 = .ok (.imul, 1) := by decide +kernel
theorem d_Model_modules_67 : decode b_Model_modules 67 = .ok (.iconst 4, 1) := by decide +kernel
theorem d_Model_modules_68 : decode b_Model_modules 68 = .ok (.iadd, 1) := by decide +kernel
theorem d_Model_modules_69 : decode b_Model_modules 69 = .ok (.iaload, 1) := by decide +kernel
theorem d_Model_modules_70 : decode b_Model_modules 70 = .ok (.istore 6, 2) := by decide +kernel
theorem d_Model_modules_72 : decode b_Model_modules 72 = .ok (.lconst 0, 1) := by decide +kernel
theorem d_Model_modules_73 : decode b_Model_modules 73 = .ok (.lstore 7, 2) := by decide +kernel
theorem d_Model_modules_75 : decode b_Model_modules 75 = .ok (.iconst 0, 1) := by decide +kernel
theorem d_Model_modules_76 : decode b_Model_modules 76 = .ok (.istore 9, 2) := by decide +kernel
theorem d_Model_modules_78 : decode b_Model_modules 78 = .ok (.iload 9, 2) := by decide +kernel
theorem d_Model_modules_80 : decode b_Model_modules 80 = .ok (.bipush 64, 2) := by decide +kernel
theorem d_Model_modules_82 : decode b_Model_modules 82 = .ok (.if_icmp .ge 136, 3) := by decide +kernel
theorem d_Model_modules_85 : decode b_Model_modules 85 = .ok (.iload_n 2, 1) := by decide +kernel
theorem d_Model_modules_86 : decode b_Model_modules 86 = .ok (.i2l, 1) := by decide +kernel
