theorem d_Search_withLine_101 : decode b_Search_withLine 101 = .ok (.iload_n 3, 1) := by decide +kernel
theorem d_Search_withLine_102 : decode b_Search_withLine 102 = .ok (.iload_n 3, 1) := by decide +kernel
theorem d_Search_withLine_103 : decode b_Search_withLine 103 = .ok (.imul, 1) := by decide +kernel
theorem d_Search_withLine_104 : decode b_Search_withLine 104 = .ok (.iload 10, 2) := by decide +kernel
theorem d_Search_withLine_106 : decode b_Search_withLine 106 = .ok (.isub, 1) := by decide +kernel
theorem d_Search_withLine_107 : decode b_Search_withLine 107 = .ok (.goto 5, 3) := by decide +kernel
theorem d_Search_withLine_110 : decode b_Search_withLine 110 = .ok (.iload 10, 2) := by decide +kernel
theorem d_Search_withLine_112 : decode b_Search_withLine 112 = .ok (.iadd, 1) := by decide +kernel
theorem d_Search_withLine_113 : decode b_Search_withLine 113 = .ok (.istore 8, 2) := by decide +kernel
theorem d_Search_withLine_115 : decode b_Search_withLine 115 = .ok (.iinc 9 1, 3) := by decide +kernel
theorem d_Search_withLine_118 : decode b_Search_withLine 118 = .ok (.goto (-74), 3) := by decide +kernel
theorem d_Search_withLine_121 : decode b_Search_withLine 121 = .ok (.iload 8, 2) := by decide +kernel
theorem d_Search_withLine_123 : decode b_Search_withLine 123 = .ok (.ireturn, 1) := by decide +kernel
theorem d_Search_lineX_0 : decode b_Search_lineX 0 = .ok (.aload_n 0, 1) := by decide +kernel
theorem d_Search_lineX_1 : decode b_Search_lineX 1 = .ok (.getfield 146, 3) := by decide +kernel
theorem d_Search_lineX_4 : decode b_Search_lineX 4 = .ok (.aload_n 0, 1) := by decide +kernel
theorem d_Search_lineX_5 : decode b_Search_lineX 5 = .ok (.getfield 66, 3) := by decide +kernel
theorem d_Search_lineX_8 : decode b_Search_lineX 8 = .ok (.iload_n 1, 1) := by decide +kernel
theorem d_Search_lineX_9 : decode b_Search_lineX 9 = .ok (.iconst 1, 1) := by decide +kernel
theorem d_Search_lineX_10 : decode b_Search_lineX 10 = .ok (.if_icmp .ne 13, 3) := by decide +kernel
theorem d_Search_lineX_13 : decode b_Search_lineX 13 = .ok (.aload_n 0, 1) := by decide +kernel
theorem d_Search_lineX_14 : decode b_Search_lineX 14 = .ok (.getfield 98, 3) := by decide +kernel
theorem d_Search_lineX_17 : decode b_Search_lineX 17 = .ok (.bipush 7, 2) := by decide +kernel
theorem d_Search_lineX_19 : decode b_Search_lineX 19 = .ok (.isub, 1) := by decide +kernel
theorem d_Search_lineX_20 : decode b_Search_lineX 20 = .ok (.goto 15, 3) := by decide +kernel
theorem d_Search_lineX_23 : decode b_Search_lineX 23 = .ok (.iload_n 1, 1) := by decide +kernel
theorem d_Search_lineX_24 : decode b_Search_lineX 24 = .ok (.iconst 3, 1) := by decide +kernel
theorem d_Search_lineX_25 : decode b_Search_lineX 25 = .ok (.if_icmp .ne 8, 3) := by decide +kernel
theorem d_Search_lineX_28 : decode b_Search_lineX 28 = .ok (.bipush 6, 2) := by decide +kernel
theorem d_Search_lineX_30 : decode b_Search_lineX 30 = .ok (.goto 5, 3) := by decide +kernel
theorem d_Search_lineX_33 : decode b_Search_lineX 33 = .ok (.bipush 8, 2) := by decide +kernel
theorem d_Search_lineX_35 : decode b_Search_lineX 35 = .ok (.imul, 1) := by decide +kernel
theorem d_Search_lineX_36 : decode b_Search_lineX 36 = .ok (.iadd, 1) := by decide +kernel
theorem d_Search_lineX_37 : decode b_Search_lineX 37 = .ok (.ireturn, 1) := by decide +kernel
theorem d_Search_lineY_0 : decode b_Search_lineY 0 = .ok (.aload_n 0, 1) := by decide +kernel
theorem d_Search_lineY_1 : decode b_Search_lineY 1 = .ok (.getfield 149, 3) := by decide +kernel
theorem d_Search_lineY_4 : decode b_Search_lineY 4 = .ok (.aload_n 0, 1) := by decide +kernel
theorem d_Search_lineY_5 : decode b_Search_lineY 5 = .ok (.getfield 66, 3) := by decide +kernel
theorem d_Search_lineY_8 : decode b_Search_lineY 8 = .ok (.iload_n 1, 1) := by decide +kernel
theorem d_Search_lineY_9 : decode b_Search_lineY 9 = .ok (.ifCond .ne 8, 3) := by decide +kernel
theorem d_Search_lineY_12 : decode b_Search_lineY 12 = .ok (.bipush 6, 2) := by decide +kernel
theorem d_Search_lineY_14 : decode b_Search_lineY 14 = .ok (.goto 20, 3) := by decide +kernel
theorem d_Search_lineY_17 : decode b_Search_lineY 17 = .ok (.iload_n 1, 1) := by decide +kernel
theorem d_Search_lineY_18 : decode b_Search_lineY 18 = .ok (.iconst 2, 1) := by decide +kernel
theorem d_Search_lineY_19 : decode b_Search_lineY 19 = .ok (.if_icmp .ne 13, 3) := by decide +kernel
theorem d_Search_lineY_22 : decode b_Search_lineY 22 = .ok (.aload_n 0, 1) := by decide +kernel
theorem d_Search_lineY_23 : decode b_Search_lineY 23 = .ok (.getfield 98, 3) := by decide +kernel
theorem d_Search_lineY_26 : decode b_Search_lineY 26 = .ok (.bipush 7, 2) := by decide +kernel
theorem d_Search_lineY_28 : decode b_Search_lineY 28 = .ok (.isub, 1) := by decide +kernel
theorem d_Search_lineY_29 : decode b_Search_lineY 29 = .ok (.goto 5, 3) := by decide +kernel
theorem d_Search_lineY_32 : decode b_Search_lineY 32 = .ok (.bipush 8, 2) := by decide +kernel
theorem d_Search_lineY_34 : decode b_Search_lineY 34 = .ok (.imul, 1) := by decide +kernel
theorem d_Search_lineY_35 : decode b_Search_lineY 35 = .ok (.iadd, 1) := by decide +kernel
theorem d_Search_lineY_36 : decode b_Search_lineY 36 = .ok (.ireturn, 1) := by decide +kernel
theorem d_Search_spotFloor_0 : decode b_Search_spotFloor 0 = .ok (.iload_n 1, 1) := by decide +kernel
theorem d_Search_spotFloor_1 : decode b_Search_spotFloor 1 = .ok (.ifCond .ne 8, 3) := by decide +kernel
theorem d_Search_spotFloor_4 : decode b_Search_spotFloor 4 = .ok (.bipush 8, 2) := by decide +kernel
theorem d_Search_spotFloor_6 : decode b_Search_spotFloor 6 = .ok (.goto 35, 3) := by decide +kernel
theorem d_Search_spotFloor_9 : decode b_Search_spotFloor 9 = .ok (.iload_n 1, 1) := by decide +kernel
theorem d_Search_spotFloor_10 : decode b_Search_spotFloor 10 = .ok (.iconst 1, 1) := by decide +kernel
theorem d_Search_spotFloor_11 : decode b_Search_spotFloor 11 = .ok (.if_icmp .ne 8, 3) := by decide +kernel
theorem d_Search_spotFloor_14 : decode b_Search_spotFloor 14 = .ok (.bipush 7, 2) := by decide +kernel
theorem d_Search_spotFloor_16 : decode b_Search_spotFloor 16 = .ok (.goto 25, 3) := by decide +kernel
theorem d_Search_spotFloor_19 : decode b_Search_spotFloor 19 = .ok (.iload_n 1, 1) := by decide +kernel
theorem d_Search_spotFloor_20 : decode b_Search_spotFloor 20 = .ok (.iconst 2, 1) := by decide +kernel
theorem d_Search_spotFloor_21 : decode b_Search_spotFloor 21 = .ok (.if_icmp .ne 13, 3) := by decide +kernel
theorem d_Search_spotFloor_24 : decode b_Search_spotFloor 24 = .ok (.aload_n 0, 1) := by decide +kernel
theorem d_Search_spotFloor_25 : decode b_Search_spotFloor 25 = .ok (.getfield 98, 3) := by decide +kernel
theorem d_Search_spotFloor_28 : decode b_Search_spotFloor 28 = .ok (.bipush 9, 2) := by decide +kernel
theorem d_Search_spotFloor_30 : decode b_Search_spotFloor 30 = .ok (.isub, 1) := by decide +kernel
theorem d_Search_spotFloor_31 : decode b_Search_spotFloor 31 = .ok (.goto 10, 3) := by decide +kernel
theorem d_Search_spotFloor_34 : decode b_Search_spotFloor 34 = .ok (.aload_n 0, 1) := by decide +kernel
theorem d_Search_spotFloor_35 : decode b_Search_spotFloor 35 = .ok (.getfield 98, 3) := by decide +kernel
theorem d_Search_spotFloor_38 : decode b_Search_spotFloor 38 = .ok (.bipush 8, 2) := by decide +kernel
theorem d_Search_spotFloor_40 : decode b_Search_spotFloor 40 = .ok (.isub, 1) := by decide +kernel
theorem d_Search_spotFloor_41 : decode b_Search_spotFloor 41 = .ok (.istore_n 2, 1) := by decide +kernel
theorem d_Search_spotFloor_42 : decode b_Search_spotFloor 42 = .ok (.iload_n 1, 1) := by decide +kernel
theorem d_Search_spotFloor_43 : decode b_Search_spotFloor 43 = .ok (.ifCond .ne 13, 3) := by decide +kernel
theorem d_Search_spotFloor_46 : decode b_Search_spotFloor 46 = .ok (.aload_n 0, 1) := by decide +kernel
theorem d_Search_spotFloor_47 : decode b_Search_spotFloor 47 = .ok (.getfield 98, 3) := by decide +kernel
theorem d_Search_spotFloor_50 : decode b_Search_spotFloor 50 = .ok (.bipush 8, 2) := by decide +kernel
theorem d_Search_spotFloor_52 : decode b_Search_spotFloor 52 = .ok (.isub, 1) := by decide +kernel
theorem d_Search_spotFloor_53 : decode b_Search_spotFloor 53 = .ok (.goto 30, 3) := by decide +kernel
theorem d_Search_spotFloor_56 : decode b_Search_spotFloor 56 = .ok (.iload_n 1, 1) := by decide +kernel
theorem d_Search_spotFloor_57 : decode b_Search_spotFloor 57 = .ok (.iconst 1, 1) := by decide +kernel
theorem d_Search_spotFloor_58 : decode b_Search_spotFloor 58 = .ok (.if_icmp .ne 8, 3) := by decide +kernel
theorem d_Search_spotFloor_61 : decode b_Search_spotFloor 61 = .ok (.bipush 8, 2) := by decide +kernel
theorem d_Search_spotFloor_63 : decode b_Search_spotFloor 63 = .ok (.goto 20, 3) := by decide +kernel
theorem d_Search_spotFloor_66 : decode b_Search_spotFloor 66 = .ok (.iload_n 1, 1) := by decide +kernel
theorem d_Search_spotFloor_67 : decode b_Search_spotFloor 67 = .ok (.iconst 2, 1) := by decide +kernel
theorem d_Search_spotFloor_68 : decode b_Search_spotFloor 68 = .ok (.if_icmp .ne 8, 3) := by decide +kernel
theorem d_Search_spotFloor_71 : decode b_Search_spotFloor 71 = .ok (.bipush 7, 2) := by decide +kernel
theorem d_Search_spotFloor_73 : decode b_Search_spotFloor 73 = .ok (.goto 10, 3) := by decide +kernel
theorem d_Search_spotFloor_76 : decode b_Search_spotFloor 76 = .ok (.aload_n 0, 1) := by decide +kernel
theorem d_Search_spotFloor_77 : decode b_Search_spotFloor 77 = .ok (.getfield 98, 3) := by decide +kernel
theorem d_Search_spotFloor_80 : decode b_Search_spotFloor 80 = .ok (.bipush 9, 2) := by decide +kernel
theorem d_Search_spotFloor_82 : decode b_Search_spotFloor 82 = .ok (.isub, 1) := by decide +kernel
theorem d_Search_spotFloor_83 : decode b_Search_spotFloor 83 = .ok (.istore_n 3, 1) := by decide +kernel
theorem d_Search_spotFloor_84 : decode b_Search_spotFloor 84 = .ok (.aload_n 0, 1) := by decide +kernel
theorem d_Search_spotFloor_85 : decode b_Search_spotFloor 85 = .ok (.getfield 66, 3) := by decide +kernel
theorem d_Search_spotFloor_88 : decode b_Search_spotFloor 88 = .ok (.aload_n 0, 1) := by decide +kernel
theorem d_Search_spotFloor_89 : decode b_Search_spotFloor 89 = .ok (.getfield 66, 3) := by decide +kernel
theorem d_Search_spotFloor_92 : decode b_Search_spotFloor 92 = .ok (.imul, 1) := by decide +kernel
theorem d_Search_spotFloor_93 : decode b_Search_spotFloor 93 = .ok (.aload_n 0, 1) := by decide +kernel
theorem d_Search_spotFloor_94 : decode b_Search_spotFloor 94 = .ok (.aload_n 0, 1) := by decide +kernel
theorem d_Search_spotFloor_95 : decode b_Search_spotFloor 95 = .ok (.getfield 146, 3) := by decide +kernel
theorem d_Search_spotFloor_98 : decode b_Search_spotFloor 98 = .ok (.aload_n 0, 1) := by decide +kernel
theorem d_Search_spotFloor_99 : decode b_Search_spotFloor 99 = .ok (.getfield 66, 3) := by decide +kernel
theorem d_Search_spotFloor_102 : decode b_Search_spotFloor 102 = .ok (.iload_n 2, 1) := by decide +kernel
theorem d_Search_spotFloor_103 : decode b_Search_spotFloor 103 = .ok (.imul, 1) := by decide +kernel
theorem d_Search_spotFloor_104 : decode b_Search_spotFloor 104 = .ok (.iadd, 1) := by decide +kernel
theorem d_Search_spotFloor_105 : decode b_Search_spotFloor 105 = .ok (.aload_n 0, 1) := by decide +kernel
theorem d_Search_spotFloor_106 : decode b_Search_spotFloor 106 = .ok (.getfield 149, 3) := by decide +kernel
theorem d_Search_spotFloor_109 : decode b_Search_spotFloor 109 = .ok (.aload_n 0, 1) := by decide +kernel
theorem d_Search_spotFloor_110 : decode b_Search_spotFloor 110 = .ok (.getfield 66, 3) := by decide +kernel
theorem d_Search_spotFloor_113 : decode b_Search_spotFloor 113 = .ok (.iload_n 3, 1) := by decide +kernel
theorem d_Search_spotFloor_114 : decode b_Search_spotFloor 114 = .ok (.imul, 1) := by decide +kernel
theorem d_Search_spotFloor_115 : decode b_Search_spotFloor 115 = .ok (.iadd, 1) := by decide +kernel
theorem d_Search_spotFloor_116 : decode b_Search_spotFloor 116 = .ok (.aload_n 0, 1) := by decide +kernel
theorem d_Search_spotFloor_117 : decode b_Search_spotFloor 117 = .ok (.getfield 66, 3) := by decide +kernel
theorem d_Search_spotFloor_120 : decode b_Search_spotFloor 120 = .ok (.aload_n 0, 1) := by decide +kernel
theorem d_Search_spotFloor_121 : decode b_Search_spotFloor 121 = .ok (.getfield 66, 3) := by decide +kernel
theorem d_Search_spotFloor_124 : decode b_Search_spotFloor 124 = .ok (.invokevirtual 169, 3) := by decide +kernel
theorem d_Search_spotFloor_127 : decode b_Search_spotFloor 127 = .ok (.isub, 1) := by decide +kernel
theorem d_Search_spotFloor_128 : decode b_Search_spotFloor 128 = .ok (.ireturn, 1) := by decide +kernel
theorem d_Search_mostDark_0 : decode b_Search_mostDark 0 = .ok (.aload_n 0, 1) := by decide +kernel
theorem d_Search_mostDark_1 : decode b_Search_mostDark 1 = .ok (.getfield 12, 3) := by decide +kernel
theorem d_Search_mostDark_4 : decode b_Search_mostDark 4 = .ok (.iload_n 1, 1) := by decide +kernel
theorem d_Search_mostDark_5 : decode b_Search_mostDark 5 = .ok (.iload_n 2, 1) := by decide +kernel
theorem d_Search_mostDark_6 : decode b_Search_mostDark 6 = .ok (.iload_n 3, 1) := by decide +kernel
theorem d_Search_mostDark_7 : decode b_Search_mostDark 7 = .ok (.aload_n 0, 1) := by decide +kernel
theorem d_Search_mostDark_8 : decode b_Search_mostDark 8 = .ok (.getfield 159, 3) := by decide +kernel
theorem d_Search_mostDark_11 : decode b_Search_mostDark 11 = .ok (.iadd, 1) := by decide +kernel
theorem d_Search_mostDark_12 : decode b_Search_mostDark 12 = .ok (.iload 4, 2) := by decide +kernel
theorem d_Search_mostDark_14 : decode b_Search_mostDark 14 = .ok (.aload_n 0, 1) := by decide +kernel
theorem d_Search_mostDark_15 : decode b_Search_mostDark 15 = .ok (.getfield 162, 3) := by decide +kernel
theorem d_Search_mostDark_18 : decode b_Search_mostDark 18 = .ok (.iadd, 1) := by decide +kernel
theorem d_Search_mostDark_19 : decode b_Search_mostDark 19 = .ok (.invokevirtual 165, 3) := by decide +kernel
theorem d_Search_mostDark_22 : decode b_Search_mostDark 22 = .ok (.istore 5, 2) := by decide +kernel
theorem d_Search_mostDark_24 : decode b_Search_mostDark 24 = .ok (.aload_n 0, 1) := by decide +kernel
theorem d_Search_mostDark_25 : decode b_Search_mostDark 25 = .ok (.invokevirtual 83, 3) := by decide +kernel
theorem d_Search_mostDark_28 : decode b_Search_mostDark 28 = .ok (.ifCond .eq 6, 3) := by decide +kernel
theorem d_Search_mostDark_31 : decode b_Search_mostDark 31 = .ok (.iload 5, 2) := by decide +kernel
theorem d_Search_mostDark_33 : decode b_Search_mostDark 33 = .ok (.ireturn, 1) := by decide +kernel
theorem d_Search_mostDark_34 : decode b_Search_mostDark 34 = .ok (.iload_n 3, 1) := by decide +kernel
theorem d_Search_mostDark_35 : decode b_Search_mostDark 35 = .ok (.aload_n 0, 1) := by decide +kernel
theorem d_Search_mostDark_36 : decode b_Search_mostDark 36 = .ok (.getfield 159, 3) := by decide +kernel
theorem d_Search_mostDark_39 : decode b_Search_mostDark 39 = .ok (.isub, 1) := by decide +kernel
theorem d_Search_mostDark_40 : decode b_Search_mostDark 40 = .ok (.iconst 0, 1) := by decide +kernel
theorem d_Search_mostDark_41 : decode b_Search_mostDark 41 = .ok (.invokestatic 108, 3) := by decide +kernel
theorem d_Search_mostDark_44 : decode b_Search_mostDark 44 = .ok (.istore 6, 2) := by decide +kernel
theorem d_Search_mostDark_46 : decode b_Search_mostDark 46 = .ok (.iload 4, 2) := by decide +kernel
theorem d_Search_mostDark_48 : decode b_Search_mostDark 48 = .ok (.aload_n 0, 1) := by decide +kernel
theorem d_Search_mostDark_49 : decode b_Search_mostDark 49 = .ok (.getfield 162, 3) := by decide +kernel
theorem d_Search_mostDark_52 : decode b_Search_mostDark 52 = .ok (.isub, 1) := by decide +kernel
theorem d_Search_mostDark_53 : decode b_Search_mostDark 53 = .ok (.iconst 0, 1) := by decide +kernel
theorem d_Search_mostDark_54 : decode b_Search_mostDark 54 = .ok (.invokestatic 108, 3) := by decide +kernel
theorem d_Search_mostDark_57 : decode b_Search_mostDark 57 = .ok (.istore 7, 2) := by decide +kernel
theorem d_Search_mostDark_59 : decode b_Search_mostDark 59 = .ok (.aload_n 0, 1) := by decide +kernel
theorem d_Search_mostDark_60 : decode b_Search_mostDark 60 = .ok (.getfield 12, 3) := by decide +kernel
theorem d_Search_mostDark_63 : decode b_Search_mostDark 63 = .ok (.iload_n 1, 1) := by decide +kernel
theorem d_Search_mostDark_64 : decode b_Search_mostDark 64 = .ok (.aload_n 0, 1) := by decide +kernel
theorem d_Search_mostDark_65 : decode b_Search_mostDark 65 = .ok (.getfield 159, 3) := by decide +kernel
theorem d_Search_mostDark_68 : decode b_Search_mostDark 68 = .ok (.iadd, 1) := by decide +kernel
theorem d_Search_mostDark_69 : decode b_Search_mostDark 69 = .ok (.iload_n 2, 1) := by decide +kernel
theorem d_Search_mostDark_70 : decode b_Search_mostDark 70 = .ok (.aload_n 0, 1) := by decide +kernel
theorem d_Search_mostDark_71 : decode b_Search_mostDark 71 = .ok (.getfield 162, 3) := by decide +kernel
theorem d_Search_mostDark_74 : decode b_Search_mostDark 74 = .ok (.iadd, 1) := by decide +kernel
theorem d_Search_mostDark_75 : decode b_Search_mostDark 75 = .ok (.iload 6, 2) := by decide +kernel
theorem d_Search_mostDark_77 : decode b_Search_mostDark 77 = .ok (.iload 7, 2) := by decide +kernel
theorem d_Search_mostDark_79 : decode b_Search_mostDark 79 = .ok (.invokevirtual 165, 3) := by decide +kernel
theorem d_Search_mostDark_82 : decode b_Search_mostDark 82 = .ok (.istore 8, 2) := by decide +kernel
theorem d_Search_mostDark_84 : decode b_Search_mostDark 84 = .ok (.iload 5, 2) := by decide +kernel
theorem d_Search_mostDark_86 : decode b_Search_mostDark 86 = .ok (.iload 8, 2) := by decide +kernel
theorem d_Search_mostDark_88 : decode b_Search_mostDark 88 = .ok (.iload_n 3, 1) := by decide +kernel
theorem d_Search_mostDark_89 : decode b_Search_mostDark 89 = .ok (.iload 4, 2) := by decide +kernel
theorem d_Search_mostDark_91 : decode b_Search_mostDark 91 = .ok (.imul, 1) := by decide +kernel
theorem d_Search_mostDark_92 : decode b_Search_mostDark 92 = .ok (.iadd, 1) := by decide +kernel
theorem d_Search_mostDark_93 : decode b_Search_mostDark 93 = .ok (.iload 6, 2) := by decide +kernel
theorem d_Search_mostDark_95 : decode b_Search_mostDark 95 = .ok (.iload 7, 2) := by decide +kernel
theorem d_Search_mostDark_97 : decode b_Search_mostDark 97 = .ok (.imul, 1) := by decide +kernel
theorem d_Search_mostDark_98 : decode b_Search_mostDark 98 = .ok (.isub, 1) := by decide +kernel
theorem d_Search_mostDark_99 : decode b_Search_mostDark 99 = .ok (.invokestatic 54, 3) := by decide +kernel
theorem d_Search_mostDark_102 : decode b_Search_mostDark 102 = .ok (.ireturn, 1) := by decide +kernel
theorem d_Search_leastDark_0 : decode b_Search_leastDark 0 = .ok (.aload_n 0, 1) := by decide +kernel
theorem d_Search_leastDark_1 : decode b_Search_leastDark 1 = .ok (.getfield 12, 3) := by decide +kernel
theorem d_Search_leastDark_4 : decode b_Search_leastDark 4 = .ok (.iload_n 1, 1) := by decide +kernel
theorem d_Search_leastDark_5 : decode b_Search_leastDark 5 = .ok (.iload_n 2, 1) := by decide +kernel
theorem d_Search_leastDark_6 : decode b_Search_leastDark 6 = .ok (.iload_n 3, 1) := by decide +kernel
theorem d_Search_leastDark_7 : decode b_Search_leastDark 7 = .ok (.aload_n 0, 1) := by decide +kernel
theorem d_Search_leastDark_8 : decode b_Search_leastDark 8 = .ok (.getfield 159, 3) := by decide +kernel
theorem d_Search_leastDark_11 : decode b_Search_leastDark 11 = .ok (.iadd, 1) := by decide +kernel
theorem d_Search_leastDark_12 : decode b_Search_leastDark 12 = .ok (.iload 4, 2) := by decide +kernel
theorem d_Search_leastDark_14 : decode b_Search_leastDark 14 = .ok (.aload_n 0, 1) := by decide +kernel
theorem d_Search_leastDark_15 : decode b_Search_leastDark 15 = .ok (.getfield 162, 3) := by decide +kernel
theorem d_Search_leastDark_18 : decode b_Search_leastDark 18 = .ok (.iadd, 1) := by decide +kernel
theorem d_Search_leastDark_19 : decode b_Search_leastDark 19 = .ok (.invokevirtual 165, 3) := by decide +kernel
theorem d_Search_leastDark_22 : decode b_Search_leastDark 22 = .ok (.istore 5, 2) := by decide +kernel
theorem d_Search_leastDark_24 : decode b_Search_leastDark 24 = .ok (.aload_n 0, 1) := by decide +kernel
theorem d_Search_leastDark_25 : decode b_Search_leastDark 25 = .ok (.invokevirtual 83, 3) := by decide +kernel
theorem d_Search_leastDark_28 : decode b_Search_leastDark 28 = .ok (.ifCond .eq 6, 3) := by decide +kernel
theorem d_Search_leastDark_31 : decode b_Search_leastDark 31 = .ok (.iload 5, 2) := by decide +kernel
theorem d_Search_leastDark_33 : decode b_Search_leastDark 33 = .ok (.ireturn, 1) := by decide +kernel
theorem d_Search_leastDark_34 : decode b_Search_leastDark 34 = .ok (.iload_n 3, 1) := by decide +kernel
theorem d_Search_leastDark_35 : decode b_Search_leastDark 35 = .ok (.aload_n 0, 1) := by decide +kernel
theorem d_Search_leastDark_36 : decode b_Search_leastDark 36 = .ok (.getfield 159, 3) := by decide +kernel
theorem d_Search_leastDark_39 : decode b_Search_leastDark 39 = .ok (.iadd, 1) := by decide +kernel
theorem d_Search_leastDark_40 : decode b_Search_leastDark 40 = .ok (.iload 4, 2) := by decide +kernel
theorem d_Search_leastDark_42 : decode b_Search_leastDark 42 = .ok (.aload_n 0, 1) := by decide +kernel
theorem d_Search_leastDark_43 : decode b_Search_leastDark 43 = .ok (.getfield 162, 3) := by decide +kernel
theorem d_Search_leastDark_46 : decode b_Search_leastDark 46 = .ok (.iadd, 1) := by decide +kernel
theorem d_Search_leastDark_47 : decode b_Search_leastDark 47 = .ok (.imul, 1) := by decide +kernel
theorem d_Search_leastDark_48 : decode b_Search_leastDark 48 = .ok (.iload_n 3, 1) := by decide +kernel
theorem d_Search_leastDark_49 : decode b_Search_leastDark 49 = .ok (.iload 4, 2) := by decide +kernel
theorem d_Search_leastDark_51 : decode b_Search_leastDark 51 = .ok (.imul, 1) := by decide +kernel
theorem d_Search_leastDark_52 : decode b_Search_leastDark 52 = .ok (.isub, 1) := by decide +kernel
theorem d_Search_leastDark_53 : decode b_Search_leastDark 53 = .ok (.istore 6, 2) := by decide +kernel
theorem d_Search_leastDark_55 : decode b_Search_leastDark 55 = .ok (.aload_n 0, 1) := by decide +kernel
theorem d_Search_leastDark_56 : decode b_Search_leastDark 56 = .ok (.getfield 12, 3) := by decide +kernel
theorem d_Search_leastDark_59 : decode b_Search_leastDark 59 = .ok (.iload_n 1, 1) := by decide +kernel
theorem d_Search_leastDark_60 : decode b_Search_leastDark 60 = .ok (.aload_n 0, 1) := by decide +kernel
theorem d_Search_leastDark_61 : decode b_Search_leastDark 61 = .ok (.getfield 159, 3) := by decide +kernel
theorem d_Search_leastDark_64 : decode b_Search_leastDark 64 = .ok (.iadd, 1) := by decide +kernel
theorem d_Search_leastDark_65 : decode b_Search_leastDark 65 = .ok (.iload_n 2, 1) := by decide +kernel
theorem d_Search_leastDark_66 : decode b_Search_leastDark 66 = .ok (.aload_n 0, 1) := by decide +kernel
theorem d_Search_leastDark_67 : decode b_Search_leastDark 67 = .ok (.getfield 162, 3) := by decide +kernel
theorem d_Search_leastDark_70 : decode b_Search_leastDark 70 = .ok (.iadd, 1) := by decide +kernel
theorem d_Search_leastDark_71 : decode b_Search_leastDark 71 = .ok (.iload_n 3, 1) := by decide +kernel
theorem d_Search_leastDark_72 : decode b_Search_leastDark 72 = .ok (.aload_n 0, 1) := by decide +kernel
theorem d_Search_leastDark_73 : decode b_Search_leastDark 73 = .ok (.getfield 159, 3) := by decide +kernel
theorem d_Search_leastDark_76 : decode b_Search_leastDark 76 = .ok (.isub, 1) := by decide +kernel
theorem d_Search_leastDark_77 : decode b_Search_leastDark 77 = .ok (.iload 4, 2) := by decide +kernel
theorem d_Search_leastDark_79 : decode b_Search_leastDark 79 = .ok (.aload_n 0, 1) := by decide +kernel
theorem d_Search_leastDark_80 : decode b_Search_leastDark 80 = .ok (.getfield 162, 3) := by decide +kernel
theorem d_Search_leastDark_83 : decode b_Search_leastDark 83 = .ok (.isub, 1) := by decide +kernel
theorem d_Search_leastDark_84 : decode b_Search_leastDark 84 = .ok (.invokevirtual 165, 3) := by decide +kernel
theorem d_Search_leastDark_87 : decode b_Search_leastDark 87 = .ok (.istore 7, 2) := by decide +kernel
theorem d_Search_leastDark_89 : decode b_Search_leastDark 89 = .ok (.iload 5, 2) := by decide +kernel
theorem d_Search_leastDark_91 : decode b_Search_leastDark 91 = .ok (.iload 6, 2) := by decide +kernel
theorem d_Search_leastDark_93 : decode b_Search_leastDark 93 = .ok (.isub, 1) := by decide +kernel
theorem d_Search_leastDark_94 : decode b_Search_leastDark 94 = .ok (.iload 7, 2) := by decide +kernel
theorem d_Search_leastDark_96 : decode b_Search_leastDark 96 = .ok (.invokestatic 108, 3) := by decide +kernel
theorem d_Search_leastDark_99 : decode b_Search_leastDark 99 = .ok (.ireturn, 1) := by decide +kernel
