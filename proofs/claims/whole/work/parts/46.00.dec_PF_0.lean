theorem d_PF_init_0 : decode b_PF_init 0 = .ok (.aload_n 0, 1) := by decide +kernel
theorem d_PF_init_1 : decode b_PF_init 1 = .ok (.invokespecial 1, 3) := by decide +kernel
theorem d_PF_init_4 : decode b_PF_init 4 = .ok (.aload_n 0, 1) := by decide +kernel
theorem d_PF_init_5 : decode b_PF_init 5 = .ok (.new 7, 3) := by decide +kernel
theorem d_PF_init_8 : decode b_PF_init 8 = .ok (.dup, 1) := by decide +kernel
theorem d_PF_init_9 : decode b_PF_init 9 = .ok (.invokespecial 9, 3) := by decide +kernel
theorem d_PF_init_12 : decode b_PF_init 12 = .ok (.putfield 10, 3) := by decide +kernel
theorem d_PF_init_15 : decode b_PF_init 15 = .ok (.aload_n 0, 1) := by decide +kernel
theorem d_PF_init_16 : decode b_PF_init 16 = .ok (.aload_n 0, 1) := by decide +kernel
theorem d_PF_init_17 : decode b_PF_init 17 = .ok (.getfield 10, 3) := by decide +kernel
theorem d_PF_init_20 : decode b_PF_init 20 = .ok (.getfield 16, 3) := by decide +kernel
theorem d_PF_init_23 : decode b_PF_init 23 = .ok (.putfield 20, 3) := by decide +kernel
theorem d_PF_init_26 : decode b_PF_init 26 = .ok (.aload_n 0, 1) := by decide +kernel
theorem d_PF_init_27 : decode b_PF_init 27 = .ok (.aload_n 0, 1) := by decide +kernel
theorem d_PF_init_28 : decode b_PF_init 28 = .ok (.getfield 10, 3) := by decide +kernel
theorem d_PF_init_31 : decode b_PF_init 31 = .ok (.getfield 21, 3) := by decide +kernel
theorem d_PF_init_34 : decode b_PF_init 34 = .ok (.putfield 25, 3) := by decide +kernel
theorem d_PF_init_37 : decode b_PF_init 37 = .ok (.aload_n 0, 1) := by decide +kernel
theorem d_PF_init_38 : decode b_PF_init 38 = .ok (.new 26, 3) := by decide +kernel
theorem d_PF_init_41 : decode b_PF_init 41 = .ok (.dup, 1) := by decide +kernel
theorem d_PF_init_42 : decode b_PF_init 42 = .ok (.invokespecial 28, 3) := by decide +kernel
theorem d_PF_init_45 : decode b_PF_init 45 = .ok (.putfield 29, 3) := by decide +kernel
theorem d_PF_init_48 : decode b_PF_init 48 = .ok (.return_, 1) := by decide +kernel
theorem d_PF_sheet_0 : decode b_PF_sheet 0 = .ok (.iload_n 1, 1) := by decide +kernel
theorem d_PF_sheet_1 : decode b_PF_sheet 1 = .ok (.iconst 1, 1) := by decide +kernel
theorem d_PF_sheet_2 : decode b_PF_sheet 2 = .ok (.sipush 512, 3) := by decide +kernel
theorem d_PF_sheet_5 : decode b_PF_sheet 5 = .ok (.invokestatic 32, 3) := by decide +kernel
theorem d_PF_sheet_8 : decode b_PF_sheet 8 = .ok (.ifCond .eq 14, 3) := by decide +kernel
theorem d_PF_sheet_11 : decode b_PF_sheet 11 = .ok (.iload_n 2, 1) := by decide +kernel
theorem d_PF_sheet_12 : decode b_PF_sheet 12 = .ok (.iconst 1, 1) := by decide +kernel
theorem d_PF_sheet_13 : decode b_PF_sheet 13 = .ok (.sipush 512, 3) := by decide +kernel
theorem d_PF_sheet_16 : decode b_PF_sheet 16 = .ok (.invokestatic 32, 3) := by decide +kernel
theorem d_PF_sheet_19 : decode b_PF_sheet 19 = .ok (.ifCond .ne 13, 3) := by decide +kernel
theorem d_PF_sheet_22 : decode b_PF_sheet 22 = .ok (.new 36, 3) := by decide +kernel
theorem d_PF_sheet_25 : decode b_PF_sheet 25 = .ok (.dup, 1) := by decide +kernel
theorem d_PF_sheet_26 : decode b_PF_sheet 26 = .ok (.ldc 38, 2) := by decide +kernel
theorem d_PF_sheet_28 : decode b_PF_sheet 28 = .ok (.invokespecial 40, 3) := by decide +kernel
theorem d_PF_sheet_31 : decode b_PF_sheet 31 = .ok (.athrow, 1) := by decide +kernel
theorem d_PF_sheet_32 : decode b_PF_sheet 32 = .ok (.aload_n 0, 1) := by decide +kernel
theorem d_PF_sheet_33 : decode b_PF_sheet 33 = .ok (.getfield 20, 3) := by decide +kernel
theorem d_PF_sheet_36 : decode b_PF_sheet 36 = .ok (.iload_n 1, 1) := by decide +kernel
theorem d_PF_sheet_37 : decode b_PF_sheet 37 = .ok (.iload_n 2, 1) := by decide +kernel
theorem d_PF_sheet_38 : decode b_PF_sheet 38 = .ok (.invokevirtual 43, 3) := by decide +kernel
theorem d_PF_sheet_41 : decode b_PF_sheet 41 = .ok (.aload_n 0, 1) := by decide +kernel
theorem d_PF_sheet_42 : decode b_PF_sheet 42 = .ok (.getfield 25, 3) := by decide +kernel
theorem d_PF_sheet_45 : decode b_PF_sheet 45 = .ok (.invokevirtual 49, 3) := by decide +kernel
theorem d_PF_sheet_48 : decode b_PF_sheet 48 = .ok (.aload_n 0, 1) := by decide +kernel
theorem d_PF_sheet_49 : decode b_PF_sheet 49 = .ok (.getfield 29, 3) := by decide +kernel
theorem d_PF_sheet_52 : decode b_PF_sheet 52 = .ok (.invokevirtual 49, 3) := by decide +kernel
theorem d_PF_sheet_55 : decode b_PF_sheet 55 = .ok (.return_, 1) := by decide +kernel
theorem d_PF_turn_0 : decode b_PF_turn 0 = .ok (.aload_n 0, 1) := by decide +kernel
theorem d_PF_turn_1 : decode b_PF_turn 1 = .ok (.getfield 20, 3) := by decide +kernel
theorem d_PF_turn_4 : decode b_PF_turn 4 = .ok (.iload_n 1, 1) := by decide +kernel
theorem d_PF_turn_5 : decode b_PF_turn 5 = .ok (.iload_n 2, 1) := by decide +kernel
theorem d_PF_turn_6 : decode b_PF_turn 6 = .ok (.lload_n 3, 1) := by decide +kernel
theorem d_PF_turn_7 : decode b_PF_turn 7 = .ok (.invokevirtual 52, 3) := by decide +kernel
theorem d_PF_turn_10 : decode b_PF_turn 10 = .ok (.ireturn, 1) := by decide +kernel
theorem d_PF_fill_0 : decode b_PF_fill 0 = .ok (.iload_n 3, 1) := by decide +kernel
theorem d_PF_fill_1 : decode b_PF_fill 1 = .ok (.iconst 1, 1) := by decide +kernel
theorem d_PF_fill_2 : decode b_PF_fill 2 = .ok (.sipush 512, 3) := by decide +kernel
theorem d_PF_fill_5 : decode b_PF_fill 5 = .ok (.invokestatic 32, 3) := by decide +kernel
theorem d_PF_fill_8 : decode b_PF_fill 8 = .ok (.ifCond .eq 15, 3) := by decide +kernel
theorem d_PF_fill_11 : decode b_PF_fill 11 = .ok (.iload 4, 2) := by decide +kernel
theorem d_PF_fill_13 : decode b_PF_fill 13 = .ok (.iconst 1, 1) := by decide +kernel
theorem d_PF_fill_14 : decode b_PF_fill 14 = .ok (.sipush 512, 3) := by decide +kernel
theorem d_PF_fill_17 : decode b_PF_fill 17 = .ok (.invokestatic 32, 3) := by decide +kernel
theorem d_PF_fill_20 : decode b_PF_fill 20 = .ok (.ifCond .ne 13, 3) := by decide +kernel
theorem d_PF_fill_23 : decode b_PF_fill 23 = .ok (.new 36, 3) := by decide +kernel
theorem d_PF_fill_26 : decode b_PF_fill 26 = .ok (.dup, 1) := by decide +kernel
theorem d_PF_fill_27 : decode b_PF_fill 27 = .ok (.ldc 56, 2) := by decide +kernel
theorem d_PF_fill_29 : decode b_PF_fill 29 = .ok (.invokespecial 40, 3) := by decide +kernel
theorem d_PF_fill_32 : decode b_PF_fill 32 = .ok (.athrow, 1) := by decide +kernel
theorem d_PF_fill_33 : decode b_PF_fill 33 = .ok (.aload_n 0, 1) := by decide +kernel
theorem d_PF_fill_34 : decode b_PF_fill 34 = .ok (.getfield 20, 3) := by decide +kernel
theorem d_PF_fill_37 : decode b_PF_fill 37 = .ok (.iload_n 1, 1) := by decide +kernel
theorem d_PF_fill_38 : decode b_PF_fill 38 = .ok (.iload_n 2, 1) := by decide +kernel
theorem d_PF_fill_39 : decode b_PF_fill 39 = .ok (.iload_n 3, 1) := by decide +kernel
theorem d_PF_fill_40 : decode b_PF_fill 40 = .ok (.iload 4, 2) := by decide +kernel
theorem d_PF_fill_42 : decode b_PF_fill 42 = .ok (.iload 5, 2) := by decide +kernel
theorem d_PF_fill_44 : decode b_PF_fill 44 = .ok (.invokevirtual 58, 3) := by decide +kernel
theorem d_PF_fill_47 : decode b_PF_fill 47 = .ok (.ireturn, 1) := by decide +kernel
theorem d_PF_draw_0 : decode b_PF_draw 0 = .ok (.iload_n 3, 1) := by decide +kernel
theorem d_PF_draw_1 : decode b_PF_draw 1 = .ok (.bipush 13, 2) := by decide +kernel
theorem d_PF_draw_3 : decode b_PF_draw 3 = .ok (.iushr, 1) := by decide +kernel
theorem d_PF_draw_4 : decode b_PF_draw 4 = .ok (.ifCond .eq 13, 3) := by decide +kernel
theorem d_PF_draw_7 : decode b_PF_draw 7 = .ok (.new 36, 3) := by decide +kernel
theorem d_PF_draw_10 : decode b_PF_draw 10 = .ok (.dup, 1) := by decide +kernel
theorem d_PF_draw_11 : decode b_PF_draw 11 = .ok (.ldc 62, 2) := by decide +kernel
theorem d_PF_draw_13 : decode b_PF_draw 13 = .ok (.invokespecial 40, 3) := by decide +kernel
theorem d_PF_draw_16 : decode b_PF_draw 16 = .ok (.athrow, 1) := by decide +kernel
theorem d_PF_draw_17 : decode b_PF_draw 17 = .ok (.iload_n 3, 1) := by decide +kernel
theorem d_PF_draw_18 : decode b_PF_draw 18 = .ok (.invokestatic 64, 3) := by decide +kernel
theorem d_PF_draw_21 : decode b_PF_draw 21 = .ok (.istore 4, 2) := by decide +kernel
theorem d_PF_draw_23 : decode b_PF_draw 23 = .ok (.iload_n 3, 1) := by decide +kernel
theorem d_PF_draw_24 : decode b_PF_draw 24 = .ok (.invokestatic 70, 3) := by decide +kernel
theorem d_PF_draw_27 : decode b_PF_draw 27 = .ok (.istore 5, 2) := by decide +kernel
theorem d_PF_draw_29 : decode b_PF_draw 29 = .ok (.iload 4, 2) := by decide +kernel
theorem d_PF_draw_31 : decode b_PF_draw 31 = .ok (.iconst 1, 1) := by decide +kernel
theorem d_PF_draw_32 : decode b_PF_draw 32 = .ok (.bipush 16, 2) := by decide +kernel
theorem d_PF_draw_34 : decode b_PF_draw 34 = .ok (.invokestatic 32, 3) := by decide +kernel
theorem d_PF_draw_37 : decode b_PF_draw 37 = .ok (.ifCond .eq 14, 3) := by decide +kernel
theorem d_PF_draw_40 : decode b_PF_draw 40 = .ok (.iload 5, 2) := by decide +kernel
theorem d_PF_draw_42 : decode b_PF_draw 42 = .ok (.iconst 1, 1) := by decide +kernel
theorem d_PF_draw_43 : decode b_PF_draw 43 = .ok (.bipush 40, 2) := by decide +kernel
theorem d_PF_draw_45 : decode b_PF_draw 45 = .ok (.invokestatic 32, 3) := by decide +kernel
theorem d_PF_draw_48 : decode b_PF_draw 48 = .ok (.ifCond .ne 13, 3) := by decide +kernel
theorem d_PF_draw_51 : decode b_PF_draw 51 = .ok (.new 36, 3) := by decide +kernel
theorem d_PF_draw_54 : decode b_PF_draw 54 = .ok (.dup, 1) := by decide +kernel
theorem d_PF_draw_55 : decode b_PF_draw 55 = .ok (.ldc 73, 2) := by decide +kernel
theorem d_PF_draw_57 : decode b_PF_draw 57 = .ok (.invokespecial 40, 3) := by decide +kernel
theorem d_PF_draw_60 : decode b_PF_draw 60 = .ok (.athrow, 1) := by decide +kernel
theorem d_PF_draw_61 : decode b_PF_draw 61 = .ok (.iload 4, 2) := by decide +kernel
theorem d_PF_draw_63 : decode b_PF_draw 63 = .ok (.iload 5, 2) := by decide +kernel
theorem d_PF_draw_65 : decode b_PF_draw 65 = .ok (.invokestatic 75, 3) := by decide +kernel
theorem d_PF_draw_68 : decode b_PF_draw 68 = .ok (.imul, 1) := by decide +kernel
theorem d_PF_draw_69 : decode b_PF_draw 69 = .ok (.istore 6, 2) := by decide +kernel
theorem d_PF_draw_71 : decode b_PF_draw 71 = .ok (.iload_n 1, 1) := by decide +kernel
theorem d_PF_draw_72 : decode b_PF_draw 72 = .ok (.iconst 0, 1) := by decide +kernel
theorem d_PF_draw_73 : decode b_PF_draw 73 = .ok (.aload_n 0, 1) := by decide +kernel
theorem d_PF_draw_74 : decode b_PF_draw 74 = .ok (.getfield 20, 3) := by decide +kernel
theorem d_PF_draw_77 : decode b_PF_draw 77 = .ok (.getfield 78, 3) := by decide +kernel
theorem d_PF_draw_80 : decode b_PF_draw 80 = .ok (.iload 6, 2) := by decide +kernel
theorem d_PF_draw_82 : decode b_PF_draw 82 = .ok (.isub, 1) := by decide +kernel
theorem d_PF_draw_83 : decode b_PF_draw 83 = .ok (.invokestatic 32, 3) := by decide +kernel
theorem d_PF_draw_86 : decode b_PF_draw 86 = .ok (.ifCond .eq 21, 3) := by decide +kernel
theorem d_PF_draw_89 : decode b_PF_draw 89 = .ok (.iload_n 2, 1) := by decide +kernel
theorem d_PF_draw_90 : decode b_PF_draw 90 = .ok (.iconst 0, 1) := by decide +kernel
theorem d_PF_draw_91 : decode b_PF_draw 91 = .ok (.aload_n 0, 1) := by decide +kernel
theorem d_PF_draw_92 : decode b_PF_draw 92 = .ok (.getfield 20, 3) := by decide +kernel
theorem d_PF_draw_95 : decode b_PF_draw 95 = .ok (.getfield 82, 3) := by decide +kernel
theorem d_PF_draw_98 : decode b_PF_draw 98 = .ok (.iload 6, 2) := by decide +kernel
theorem d_PF_draw_100 : decode b_PF_draw 100 = .ok (.isub, 1) := by decide +kernel
theorem d_PF_draw_101 : decode b_PF_draw 101 = .ok (.invokestatic 32, 3) := by decide +kernel
theorem d_PF_draw_104 : decode b_PF_draw 104 = .ok (.ifCond .ne 13, 3) := by decide +kernel
theorem d_PF_draw_107 : decode b_PF_draw 107 = .ok (.new 36, 3) := by decide +kernel
theorem d_PF_draw_110 : decode b_PF_draw 110 = .ok (.dup, 1) := by decide +kernel
theorem d_PF_draw_111 : decode b_PF_draw 111 = .ok (.ldc 85, 2) := by decide +kernel
theorem d_PF_draw_113 : decode b_PF_draw 113 = .ok (.invokespecial 40, 3) := by decide +kernel
theorem d_PF_draw_116 : decode b_PF_draw 116 = .ok (.athrow, 1) := by decide +kernel
theorem d_PF_draw_117 : decode b_PF_draw 117 = .ok (.aload_n 0, 1) := by decide +kernel
theorem d_PF_draw_118 : decode b_PF_draw 118 = .ok (.new 65, 3) := by decide +kernel
theorem d_PF_draw_121 : decode b_PF_draw 121 = .ok (.dup, 1) := by decide +kernel
theorem d_PF_draw_122 : decode b_PF_draw 122 = .ok (.iload_n 1, 1) := by decide +kernel
theorem d_PF_draw_123 : decode b_PF_draw 123 = .ok (.iload_n 2, 1) := by decide +kernel
theorem d_PF_draw_124 : decode b_PF_draw 124 = .ok (.iload_n 3, 1) := by decide +kernel
theorem d_PF_draw_125 : decode b_PF_draw 125 = .ok (.invokestatic 87, 3) := by decide +kernel
theorem d_PF_draw_128 : decode b_PF_draw 128 = .ok (.invokespecial 91, 3) := by decide +kernel
theorem d_PF_draw_131 : decode b_PF_draw 131 = .ok (.invokevirtual 94, 3) := by decide +kernel
theorem d_PF_draw_134 : decode b_PF_draw 134 = .ok (.ireturn, 1) := by decide +kernel
theorem d_PF_dots_0 : decode b_PF_dots 0 = .ok (.aload_n 0, 1) := by decide +kernel
theorem d_PF_dots_1 : decode b_PF_dots 1 = .ok (.getfield 20, 3) := by decide +kernel
theorem d_PF_dots_4 : decode b_PF_dots 4 = .ok (.iload_n 1, 1) := by decide +kernel
theorem d_PF_dots_5 : decode b_PF_dots 5 = .ok (.iload_n 2, 1) := by decide +kernel
theorem d_PF_dots_6 : decode b_PF_dots 6 = .ok (.invokevirtual 98, 3) := by decide +kernel
theorem d_PF_dots_9 : decode b_PF_dots 9 = .ok (.lreturn, 1) := by decide +kernel
theorem d_PF_find_0 : decode b_PF_find 0 = .ok (.iload_n 1, 1) := by decide +kernel
theorem d_PF_find_1 : decode b_PF_find 1 = .ok (.iconst 1, 1) := by decide +kernel
theorem d_PF_find_2 : decode b_PF_find 2 = .ok (.bipush 16, 2) := by decide +kernel
theorem d_PF_find_4 : decode b_PF_find 4 = .ok (.invokestatic 32, 3) := by decide +kernel
theorem d_PF_find_7 : decode b_PF_find 7 = .ok (.ifCond .eq 13, 3) := by decide +kernel
theorem d_PF_find_10 : decode b_PF_find 10 = .ok (.iload_n 2, 1) := by decide +kernel
theorem d_PF_find_11 : decode b_PF_find 11 = .ok (.iload_n 1, 1) := by decide +kernel
theorem d_PF_find_12 : decode b_PF_find 12 = .ok (.bipush 16, 2) := by decide +kernel
theorem d_PF_find_14 : decode b_PF_find 14 = .ok (.invokestatic 32, 3) := by decide +kernel
theorem d_PF_find_17 : decode b_PF_find 17 = .ok (.ifCond .ne 13, 3) := by decide +kernel
theorem d_PF_find_20 : decode b_PF_find 20 = .ok (.new 36, 3) := by decide +kernel
theorem d_PF_find_23 : decode b_PF_find 23 = .ok (.dup, 1) := by decide +kernel
theorem d_PF_find_24 : decode b_PF_find 24 = .ok (.ldc 102, 2) := by decide +kernel
theorem d_PF_find_26 : decode b_PF_find 26 = .ok (.invokespecial 40, 3) := by decide +kernel
theorem d_PF_find_29 : decode b_PF_find 29 = .ok (.athrow, 1) := by decide +kernel
theorem d_PF_find_30 : decode b_PF_find 30 = .ok (.iload_n 3, 1) := by decide +kernel
theorem d_PF_find_31 : decode b_PF_find 31 = .ok (.iconst 0, 1) := by decide +kernel
theorem d_PF_find_32 : decode b_PF_find 32 = .ok (.sipush 500, 3) := by decide +kernel
theorem d_PF_find_35 : decode b_PF_find 35 = .ok (.invokestatic 32, 3) := by decide +kernel
theorem d_PF_find_38 : decode b_PF_find 38 = .ok (.ifCond .ne 13, 3) := by decide +kernel
theorem d_PF_find_41 : decode b_PF_find 41 = .ok (.new 36, 3) := by decide +kernel
theorem d_PF_find_44 : decode b_PF_find 44 = .ok (.dup, 1) := by decide +kernel
theorem d_PF_find_45 : decode b_PF_find 45 = .ok (.ldc 104, 2) := by decide +kernel
theorem d_PF_find_47 : decode b_PF_find 47 = .ok (.invokespecial 40, 3) := by decide +kernel
theorem d_PF_find_50 : decode b_PF_find 50 = .ok (.athrow, 1) := by decide +kernel
theorem d_PF_find_51 : decode b_PF_find 51 = .ok (.aload_n 0, 1) := by decide +kernel
theorem d_PF_find_52 : decode b_PF_find 52 = .ok (.getfield 29, 3) := by decide +kernel
theorem d_PF_find_55 : decode b_PF_find 55 = .ok (.invokevirtual 49, 3) := by decide +kernel
theorem d_PF_find_58 : decode b_PF_find 58 = .ok (.aload_n 0, 1) := by decide +kernel
theorem d_PF_find_59 : decode b_PF_find 59 = .ok (.getfield 20, 3) := by decide +kernel
theorem d_PF_find_62 : decode b_PF_find 62 = .ok (.invokevirtual 106, 3) := by decide +kernel
theorem d_PF_find_65 : decode b_PF_find 65 = .ok (.aload_n 0, 1) := by decide +kernel
theorem d_PF_find_66 : decode b_PF_find 66 = .ok (.getfield 10, 3) := by decide +kernel
theorem d_PF_find_69 : decode b_PF_find 69 = .ok (.iload_n 1, 1) := by decide +kernel
theorem d_PF_find_70 : decode b_PF_find 70 = .ok (.iload_n 2, 1) := by decide +kernel
theorem d_PF_find_71 : decode b_PF_find 71 = .ok (.iload_n 3, 1) := by decide +kernel
theorem d_PF_find_72 : decode b_PF_find 72 = .ok (.invokevirtual 109, 3) := by decide +kernel
theorem d_PF_find_75 : decode b_PF_find 75 = .ok (.ifCond .ne 12, 3) := by decide +kernel
theorem d_PF_find_78 : decode b_PF_find 78 = .ok (.aload_n 0, 1) := by decide +kernel
theorem d_PF_find_79 : decode b_PF_find 79 = .ok (.getfield 25, 3) := by decide +kernel
theorem d_PF_find_82 : decode b_PF_find 82 = .ok (.invokevirtual 49, 3) := by decide +kernel
theorem d_PF_find_85 : decode b_PF_find 85 = .ok (.iconst (-1), 1) := by decide +kernel
theorem d_PF_find_86 : decode b_PF_find 86 = .ok (.ireturn, 1) := by decide +kernel
theorem d_PF_find_87 : decode b_PF_find 87 = .ok (.aload_n 0, 1) := by decide +kernel
theorem d_PF_find_88 : decode b_PF_find 88 = .ok (.getfield 29, 3) := by decide +kernel
theorem d_PF_find_91 : decode b_PF_find 91 = .ok (.aload_n 0, 1) := by decide +kernel
theorem d_PF_find_92 : decode b_PF_find 92 = .ok (.getfield 25, 3) := by decide +kernel
theorem d_PF_find_95 : decode b_PF_find 95 = .ok (.invokevirtual 112, 3) := by decide +kernel
theorem d_PF_find_98 : decode b_PF_find 98 = .ok (.aload_n 0, 1) := by decide +kernel
theorem d_PF_find_99 : decode b_PF_find 99 = .ok (.getfield 29, 3) := by decide +kernel
theorem d_PF_find_102 : decode b_PF_find 102 = .ok (.getfield 116, 3) := by decide +kernel
theorem d_PF_find_105 : decode b_PF_find 105 = .ok (.ireturn, 1) := by decide +kernel
theorem d_PF_stood_0 : decode b_PF_stood 0 = .ok (.aload_n 0, 1) := by decide +kernel
theorem d_PF_stood_1 : decode b_PF_stood 1 = .ok (.getfield 25, 3) := by decide +kernel
theorem d_PF_stood_4 : decode b_PF_stood 4 = .ok (.getfield 116, 3) := by decide +kernel
theorem d_PF_stood_7 : decode b_PF_stood 7 = .ok (.ireturn, 1) := by decide +kernel
theorem d_PF_place_0 : decode b_PF_place 0 = .ok (.iload_n 2, 1) := by decide +kernel
theorem d_PF_place_1 : decode b_PF_place 1 = .ok (.iconst 0, 1) := by decide +kernel
theorem d_PF_place_2 : decode b_PF_place 2 = .ok (.iconst 5, 1) := by decide +kernel
theorem d_PF_place_3 : decode b_PF_place 3 = .ok (.invokestatic 32, 3) := by decide +kernel
theorem d_PF_place_6 : decode b_PF_place 6 = .ok (.ifCond .ne 13, 3) := by decide +kernel
theorem d_PF_place_9 : decode b_PF_place 9 = .ok (.new 36, 3) := by decide +kernel
theorem d_PF_place_12 : decode b_PF_place 12 = .ok (.dup, 1) := by decide +kernel
theorem d_PF_place_13 : decode b_PF_place 13 = .ok (.ldc 119, 2) := by decide +kernel
theorem d_PF_place_15 : decode b_PF_place 15 = .ok (.invokespecial 40, 3) := by decide +kernel
theorem d_PF_place_18 : decode b_PF_place 18 = .ok (.athrow, 1) := by decide +kernel
theorem d_PF_place_19 : decode b_PF_place 19 = .ok (.iload_n 1, 1) := by decide +kernel
theorem d_PF_place_20 : decode b_PF_place 20 = .ok (.iconst 0, 1) := by decide +kernel
theorem d_PF_place_21 : decode b_PF_place 21 = .ok (.aload_n 0, 1) := by decide +kernel
theorem d_PF_place_22 : decode b_PF_place 22 = .ok (.getfield 29, 3) := by decide +kernel
theorem d_PF_place_25 : decode b_PF_place 25 = .ok (.getfield 116, 3) := by decide +kernel
theorem d_PF_place_28 : decode b_PF_place 28 = .ok (.iconst 1, 1) := by decide +kernel
theorem d_PF_place_29 : decode b_PF_place 29 = .ok (.isub, 1) := by decide +kernel
theorem d_PF_place_30 : decode b_PF_place 30 = .ok (.invokestatic 32, 3) := by decide +kernel
theorem d_PF_place_33 : decode b_PF_place 33 = .ok (.ifCond .ne 5, 3) := by decide +kernel
theorem d_PF_place_36 : decode b_PF_place 36 = .ok (.iconst (-1), 1) := by decide +kernel
theorem d_PF_place_37 : decode b_PF_place 37 = .ok (.ireturn, 1) := by decide +kernel
theorem d_PF_place_38 : decode b_PF_place 38 = .ok (.aload_n 0, 1) := by decide +kernel
theorem d_PF_place_39 : decode b_PF_place 39 = .ok (.getfield 29, 3) := by decide +kernel
theorem d_PF_place_42 : decode b_PF_place 42 = .ok (.getfield 121, 3) := by decide +kernel
theorem d_PF_place_45 : decode b_PF_place 45 = .ok (.iload_n 1, 1) := by decide +kernel
theorem d_PF_place_46 : decode b_PF_place 46 = .ok (.iaload, 1) := by decide +kernel
theorem d_PF_place_47 : decode b_PF_place 47 = .ok (.istore_n 3, 1) := by decide +kernel
theorem d_PF_place_48 : decode b_PF_place 48 = .ok (.iload_n 2, 1) := by decide +kernel
theorem d_PF_place_49 : decode b_PF_place 49 = .ok (.tableswitch 60 0 4 #[35, 40, 45, 50, 55], 35) := by decide +kernel
theorem d_PF_place_84 : decode b_PF_place 84 = .ok (.iload_n 3, 1) := by decide +kernel
theorem d_PF_place_85 : decode b_PF_place 85 = .ok (.invokestatic 125, 3) := by decide +kernel
theorem d_PF_place_88 : decode b_PF_place 88 = .ok (.ireturn, 1) := by decide +kernel
theorem d_PF_place_89 : decode b_PF_place 89 = .ok (.iload_n 3, 1) := by decide +kernel
theorem d_PF_place_90 : decode b_PF_place 90 = .ok (.invokestatic 128, 3) := by decide +kernel
theorem d_PF_place_93 : decode b_PF_place 93 = .ok (.ireturn, 1) := by decide +kernel
theorem d_PF_place_94 : decode b_PF_place 94 = .ok (.iload_n 3, 1) := by decide +kernel
theorem d_PF_place_95 : decode b_PF_place 95 = .ok (.invokestatic 64, 3) := by decide +kernel
theorem d_PF_place_98 : decode b_PF_place 98 = .ok (.ireturn, 1) := by decide +kernel
theorem d_PF_place_99 : decode b_PF_place 99 = .ok (.iload_n 3, 1) := by decide +kernel
theorem d_PF_place_100 : decode b_PF_place 100 = .ok (.invokestatic 70, 3) := by decide +kernel
theorem d_PF_place_103 : decode b_PF_place 103 = .ok (.ireturn, 1) := by decide +kernel
theorem d_PF_place_104 : decode b_PF_place 104 = .ok (.iload_n 3, 1) := by decide +kernel
theorem d_PF_place_105 : decode b_PF_place 105 = .ok (.invokestatic 131, 3) := by decide +kernel
theorem d_PF_place_108 : decode b_PF_place 108 = .ok (.ireturn, 1) := by decide +kernel
theorem d_PF_place_109 : decode b_PF_place 109 = .ok (.aload_n 0, 1) := by decide +kernel
theorem d_PF_place_110 : decode b_PF_place 110 = .ok (.getfield 29, 3) := by decide +kernel
theorem d_PF_place_113 : decode b_PF_place 113 = .ok (.getfield 134, 3) := by decide +kernel
theorem d_PF_place_116 : decode b_PF_place 116 = .ok (.iload_n 1, 1) := by decide +kernel
theorem d_PF_place_117 : decode b_PF_place 117 = .ok (.iaload, 1) := by decide +kernel
theorem d_PF_place_118 : decode b_PF_place 118 = .ok (.ireturn, 1) := by decide +kernel
theorem d_PF_modules_0 : decode b_PF_modules 0 = .ok (.iload_n 1, 1) := by decide +kernel
theorem d_PF_modules_1 : decode b_PF_modules 1 = .ok (.iconst 0, 1) := by decide +kernel
theorem d_PF_modules_2 : decode b_PF_modules 2 = .ok (.aload_n 0, 1) := by decide +kernel
theorem d_PF_modules_3 : decode b_PF_modules 3 = .ok (.getfield 29, 3) := by decide +kernel
theorem d_PF_modules_6 : decode b_PF_modules 6 = .ok (.getfield 116, 3) := by decide +kernel
theorem d_PF_modules_9 : decode b_PF_modules 9 = .ok (.iconst 1, 1) := by decide +kernel
theorem d_PF_modules_10 : decode b_PF_modules 10 = .ok (.isub, 1) := by decide +kernel
theorem d_PF_modules_11 : decode b_PF_modules 11 = .ok (.invokestatic 32, 3) := by decide +kernel
theorem d_PF_modules_14 : decode b_PF_modules 14 = .ok (.ifCond .ne 13, 3) := by decide +kernel
theorem d_PF_modules_17 : decode b_PF_modules 17 = .ok (.new 137, 3) := by decide +kernel
theorem d_PF_modules_20 : decode b_PF_modules 20 = .ok (.dup, 1) := by decide +kernel
theorem d_PF_modules_21 : decode b_PF_modules 21 = .ok (.ldc 139, 2) := by decide +kernel
theorem d_PF_modules_23 : decode b_PF_modules 23 = .ok (.invokespecial 141, 3) := by decide +kernel
theorem d_PF_modules_26 : decode b_PF_modules 26 = .ok (.athrow, 1) := by decide +kernel
theorem d_PF_modules_27 : decode b_PF_modules 27 = .ok (.new 65, 3) := by decide +kernel
theorem d_PF_modules_30 : decode b_PF_modules 30 = .ok (.dup, 1) := by decide +kernel
theorem d_PF_modules_31 : decode b_PF_modules 31 = .ok (.aload_n 0, 1) := by decide +kernel
theorem d_PF_modules_32 : decode b_PF_modules 32 = .ok (.getfield 29, 3) := by decide +kernel
theorem d_PF_modules_35 : decode b_PF_modules 35 = .ok (.getfield 121, 3) := by decide +kernel
theorem d_PF_modules_38 : decode b_PF_modules 38 = .ok (.iload_n 1, 1) := by decide +kernel
theorem d_PF_modules_39 : decode b_PF_modules 39 = .ok (.iaload, 1) := by decide +kernel
theorem d_PF_modules_40 : decode b_PF_modules 40 = .ok (.invokespecial 91, 3) := by decide +kernel
theorem d_PF_modules_43 : decode b_PF_modules 43 = .ok (.astore 4, 2) := by decide +kernel
theorem d_PF_modules_45 : decode b_PF_modules 45 = .ok (.lconst 0, 1) := by decide +kernel
theorem d_PF_modules_46 : decode b_PF_modules 46 = .ok (.lstore 5, 2) := by decide +kernel
theorem d_PF_modules_48 : decode b_PF_modules 48 = .ok (.iconst 0, 1) := by decide +kernel
theorem d_PF_modules_49 : decode b_PF_modules 49 = .ok (.istore 7, 2) := by decide +kernel
theorem d_PF_modules_51 : decode b_PF_modules 51 = .ok (.iload 7, 2) := by decide +kernel
theorem d_PF_modules_53 : decode b_PF_modules 53 = .ok (.bipush 64, 2) := by decide +kernel
theorem d_PF_modules_55 : decode b_PF_modules 55 = .ok (.if_icmp .ge 47, 3) := by decide +kernel
theorem d_PF_modules_58 : decode b_PF_modules 58 = .ok (.iload_n 2, 1) := by decide +kernel
theorem d_PF_modules_59 : decode b_PF_modules 59 = .ok (.iload 7, 2) := by decide +kernel
theorem d_PF_modules_61 : decode b_PF_modules 61 = .ok (.iadd, 1) := by decide +kernel
theorem d_PF_modules_62 : decode b_PF_modules 62 = .ok (.istore 8, 2) := by decide +kernel
theorem d_PF_modules_64 : decode b_PF_modules 64 = .ok (.aload 4, 2) := by decide +kernel
theorem d_PF_modules_66 : decode b_PF_modules 66 = .ok (.iload 8, 2) := by decide +kernel
theorem d_PF_modules_68 : decode b_PF_modules 68 = .ok (.iload_n 3, 1) := by decide +kernel
theorem d_PF_modules_69 : decode b_PF_modules 69 = .ok (.invokevirtual 142, 3) := by decide +kernel
theorem d_PF_modules_72 : decode b_PF_modules 72 = .ok (.ifCond .eq 24, 3) := by decide +kernel
theorem d_PF_modules_75 : decode b_PF_modules 75 = .ok (.aload_n 0, 1) := by decide +kernel
theorem d_PF_modules_76 : decode b_PF_modules 76 = .ok (.aload 4, 2) := by decide +kernel
theorem d_PF_modules_78 : decode b_PF_modules 78 = .ok (.iload 8, 2) := by decide +kernel
theorem d_PF_modules_80 : decode b_PF_modules 80 = .ok (.iload_n 3, 1) := by decide +kernel
theorem d_PF_modules_81 : decode b_PF_modules 81 = .ok (.invokevirtual 146, 3) := by decide +kernel
theorem d_PF_modules_84 : decode b_PF_modules 84 = .ok (.ifCond .eq 12, 3) := by decide +kernel
theorem d_PF_modules_87 : decode b_PF_modules 87 = .ok (.lload 5, 2) := by decide +kernel
theorem d_PF_modules_89 : decode b_PF_modules 89 = .ok (.lconst 1, 1) := by decide +kernel
theorem d_PF_modules_90 : decode b_PF_modules 90 = .ok (.iload 7, 2) := by decide +kernel
theorem d_PF_modules_92 : decode b_PF_modules 92 = .ok (.lshl, 1) := by decide +kernel
theorem d_PF_modules_93 : decode b_PF_modules 93 = .ok (.lor, 1) := by decide +kernel
theorem d_PF_modules_94 : decode b_PF_modules 94 = .ok (.lstore 5, 2) := by decide +kernel
theorem d_PF_modules_96 : decode b_PF_modules 96 = .ok (.iinc 7 1, 3) := by decide +kernel
theorem d_PF_modules_99 : decode b_PF_modules 99 = .ok (.goto (-48), 3) := by decide +kernel
theorem d_PF_modules_102 : decode b_PF_modules 102 = .ok (.lload 5, 2) := by decide +kernel
theorem d_PF_modules_104 : decode b_PF_modules 104 = .ok (.lreturn, 1) := by decide +kernel
theorem d_PF_isWithin_0 : decode b_PF_isWithin 0 = .ok (.iload_n 0, 1) := by decide +kernel
theorem d_PF_isWithin_1 : decode b_PF_isWithin 1 = .ok (.iload_n 1, 1) := by decide +kernel
theorem d_PF_isWithin_2 : decode b_PF_isWithin 2 = .ok (.if_icmp .lt 12, 3) := by decide +kernel
theorem d_PF_isWithin_5 : decode b_PF_isWithin 5 = .ok (.iload_n 0, 1) := by decide +kernel
theorem d_PF_isWithin_6 : decode b_PF_isWithin 6 = .ok (.iload_n 2, 1) := by decide +kernel
theorem d_PF_isWithin_7 : decode b_PF_isWithin 7 = .ok (.if_icmp .gt 7, 3) := by decide +kernel
theorem d_PF_isWithin_10 : decode b_PF_isWithin 10 = .ok (.iconst 1, 1) := by decide +kernel
theorem d_PF_isWithin_11 : decode b_PF_isWithin 11 = .ok (.goto 4, 3) := by decide +kernel
theorem d_PF_isWithin_14 : decode b_PF_isWithin 14 = .ok (.iconst 0, 1) := by decide +kernel
theorem d_PF_isWithin_15 : decode b_PF_isWithin 15 = .ok (.ireturn, 1) := by decide +kernel
theorem d_PF_isMostlyDark_0 : decode b_PF_isMostlyDark 0 = .ok (.aload_n 1, 1) := by decide +kernel
theorem d_PF_isMostlyDark_1 : decode b_PF_isMostlyDark 1 = .ok (.getfield 150, 3) := by decide +kernel
theorem d_PF_isMostlyDark_4 : decode b_PF_isMostlyDark 4 = .ok (.istore 4, 2) := by decide +kernel
theorem d_PF_isMostlyDark_6 : decode b_PF_isMostlyDark 6 = .ok (.aload_n 0, 1) := by decide +kernel
theorem d_PF_isMostlyDark_7 : decode b_PF_isMostlyDark 7 = .ok (.getfield 20, 3) := by decide +kernel
theorem d_PF_isMostlyDark_10 : decode b_PF_isMostlyDark 10 = .ok (.aload_n 1, 1) := by decide +kernel
theorem d_PF_isMostlyDark_11 : decode b_PF_isMostlyDark 11 = .ok (.iload_n 2, 1) := by decide +kernel
theorem d_PF_isMostlyDark_12 : decode b_PF_isMostlyDark 12 = .ok (.iload_n 3, 1) := by decide +kernel
theorem d_PF_isMostlyDark_13 : decode b_PF_isMostlyDark 13 = .ok (.invokevirtual 153, 3) := by decide +kernel
theorem d_PF_isMostlyDark_16 : decode b_PF_isMostlyDark 16 = .ok (.aload_n 1, 1) := by decide +kernel
theorem d_PF_isMostlyDark_17 : decode b_PF_isMostlyDark 17 = .ok (.iload_n 2, 1) := by decide +kernel
theorem d_PF_isMostlyDark_18 : decode b_PF_isMostlyDark 18 = .ok (.iload_n 3, 1) := by decide +kernel
theorem d_PF_isMostlyDark_19 : decode b_PF_isMostlyDark 19 = .ok (.invokevirtual 157, 3) := by decide +kernel
theorem d_PF_isMostlyDark_22 : decode b_PF_isMostlyDark 22 = .ok (.iload 4, 2) := by decide +kernel
theorem d_PF_isMostlyDark_24 : decode b_PF_isMostlyDark 24 = .ok (.iload 4, 2) := by decide +kernel
theorem d_PF_isMostlyDark_26 : decode b_PF_isMostlyDark 26 = .ok (.invokevirtual 160, 3) := by decide +kernel
theorem d_PF_isMostlyDark_29 : decode b_PF_isMostlyDark 29 = .ok (.istore 5, 2) := by decide +kernel
theorem d_PF_isMostlyDark_31 : decode b_PF_isMostlyDark 31 = .ok (.iconst 2, 1) := by decide +kernel
theorem d_PF_isMostlyDark_32 : decode b_PF_isMostlyDark 32 = .ok (.iload 5, 2) := by decide +kernel
theorem d_PF_isMostlyDark_34 : decode b_PF_isMostlyDark 34 = .ok (.imul, 1) := by decide +kernel
theorem d_PF_isMostlyDark_35 : decode b_PF_isMostlyDark 35 = .ok (.iload 4, 2) := by decide +kernel
theorem d_PF_isMostlyDark_37 : decode b_PF_isMostlyDark 37 = .ok (.iload 4, 2) := by decide +kernel
theorem d_PF_isMostlyDark_39 : decode b_PF_isMostlyDark 39 = .ok (.imul, 1) := by decide +kernel
theorem d_PF_isMostlyDark_40 : decode b_PF_isMostlyDark 40 = .ok (.if_icmp .le 7, 3) := by decide +kernel
theorem d_PF_isMostlyDark_43 : decode b_PF_isMostlyDark 43 = .ok (.iconst 1, 1) := by decide +kernel
theorem d_PF_isMostlyDark_44 : decode b_PF_isMostlyDark 44 = .ok (.goto 4, 3) := by decide +kernel
theorem d_PF_isMostlyDark_47 : decode b_PF_isMostlyDark 47 = .ok (.iconst 0, 1) := by decide +kernel
theorem d_PF_isMostlyDark_48 : decode b_PF_isMostlyDark 48 = .ok (.ireturn, 1) := by decide +kernel
theorem d_PF_drawFixed_0 : decode b_PF_drawFixed 0 = .ok (.aload_n 1, 1) := by decide +kernel
theorem d_PF_drawFixed_1 : decode b_PF_drawFixed 1 = .ok (.getfield 164, 3) := by decide +kernel
theorem d_PF_drawFixed_4 : decode b_PF_drawFixed 4 = .ok (.iconst 4, 1) := by decide +kernel
theorem d_PF_drawFixed_5 : decode b_PF_drawFixed 5 = .ok (.isub, 1) := by decide +kernel
theorem d_PF_drawFixed_6 : decode b_PF_drawFixed 6 = .ok (.istore_n 2, 1) := by decide +kernel
theorem d_PF_drawFixed_7 : decode b_PF_drawFixed 7 = .ok (.aload_n 0, 1) := by decide +kernel
theorem d_PF_drawFixed_8 : decode b_PF_drawFixed 8 = .ok (.aload_n 1, 1) := by decide +kernel
theorem d_PF_drawFixed_9 : decode b_PF_drawFixed 9 = .ok (.iconst 3, 1) := by decide +kernel
theorem d_PF_drawFixed_10 : decode b_PF_drawFixed 10 = .ok (.iconst 3, 1) := by decide +kernel
theorem d_PF_drawFixed_11 : decode b_PF_drawFixed 11 = .ok (.invokevirtual 167, 3) := by decide +kernel
theorem d_PF_drawFixed_14 : decode b_PF_drawFixed 14 = .ok (.aload_n 0, 1) := by decide +kernel
theorem d_PF_drawFixed_15 : decode b_PF_drawFixed 15 = .ok (.aload_n 1, 1) := by decide +kernel
theorem d_PF_drawFixed_16 : decode b_PF_drawFixed 16 = .ok (.iload_n 2, 1) := by decide +kernel
theorem d_PF_drawFixed_17 : decode b_PF_drawFixed 17 = .ok (.iconst 3, 1) := by decide +kernel
theorem d_PF_drawFixed_18 : decode b_PF_drawFixed 18 = .ok (.invokevirtual 167, 3) := by decide +kernel
theorem d_PF_drawFixed_21 : decode b_PF_drawFixed 21 = .ok (.iadd, 1) := by decide +kernel
theorem d_PF_drawFixed_22 : decode b_PF_drawFixed 22 = .ok (.aload_n 0, 1) := by decide +kernel
theorem d_PF_drawFixed_23 : decode b_PF_drawFixed 23 = .ok (.aload_n 1, 1) := by decide +kernel
theorem d_PF_drawFixed_24 : decode b_PF_drawFixed 24 = .ok (.iconst 3, 1) := by decide +kernel
theorem d_PF_drawFixed_25 : decode b_PF_drawFixed 25 = .ok (.iload_n 2, 1) := by decide +kernel
theorem d_PF_drawFixed_26 : decode b_PF_drawFixed 26 = .ok (.invokevirtual 167, 3) := by decide +kernel
theorem d_PF_drawFixed_29 : decode b_PF_drawFixed 29 = .ok (.iadd, 1) := by decide +kernel
theorem d_PF_drawFixed_30 : decode b_PF_drawFixed 30 = .ok (.istore_n 3, 1) := by decide +kernel
theorem d_PF_drawFixed_31 : decode b_PF_drawFixed 31 = .ok (.bipush 8, 2) := by decide +kernel
theorem d_PF_drawFixed_33 : decode b_PF_drawFixed 33 = .ok (.istore 4, 2) := by decide +kernel
theorem d_PF_drawFixed_35 : decode b_PF_drawFixed 35 = .ok (.iload 4, 2) := by decide +kernel
theorem d_PF_drawFixed_37 : decode b_PF_drawFixed 37 = .ok (.aload_n 1, 1) := by decide +kernel
theorem d_PF_drawFixed_38 : decode b_PF_drawFixed 38 = .ok (.getfield 164, 3) := by decide +kernel
theorem d_PF_drawFixed_41 : decode b_PF_drawFixed 41 = .ok (.bipush 9, 2) := by decide +kernel
theorem d_PF_drawFixed_43 : decode b_PF_drawFixed 43 = .ok (.isub, 1) := by decide +kernel
theorem d_PF_drawFixed_44 : decode b_PF_drawFixed 44 = .ok (.if_icmp .gt 49, 3) := by decide +kernel
theorem d_PF_drawFixed_47 : decode b_PF_drawFixed 47 = .ok (.iload 4, 2) := by decide +kernel
theorem d_PF_drawFixed_49 : decode b_PF_drawFixed 49 = .ok (.iconst 2, 1) := by decide +kernel
theorem d_PF_drawFixed_50 : decode b_PF_drawFixed 50 = .ok (.irem, 1) := by decide +kernel
theorem d_PF_drawFixed_51 : decode b_PF_drawFixed 51 = .ok (.ifCond .ne 7, 3) := by decide +kernel
theorem d_PF_drawFixed_54 : decode b_PF_drawFixed 54 = .ok (.iconst 1, 1) := by decide +kernel
theorem d_PF_drawFixed_55 : decode b_PF_drawFixed 55 = .ok (.goto 4, 3) := by decide +kernel
theorem d_PF_drawFixed_58 : decode b_PF_drawFixed 58 = .ok (.iconst 0, 1) := by decide +kernel
theorem d_PF_drawFixed_59 : decode b_PF_drawFixed 59 = .ok (.istore 5, 2) := by decide +kernel
theorem d_PF_drawFixed_61 : decode b_PF_drawFixed 61 = .ok (.iload_n 3, 1) := by decide +kernel
theorem d_PF_drawFixed_62 : decode b_PF_drawFixed 62 = .ok (.aload_n 0, 1) := by decide +kernel
theorem d_PF_drawFixed_63 : decode b_PF_drawFixed 63 = .ok (.aload_n 1, 1) := by decide +kernel
theorem d_PF_drawFixed_64 : decode b_PF_drawFixed 64 = .ok (.iload 4, 2) := by decide +kernel
theorem d_PF_drawFixed_66 : decode b_PF_drawFixed 66 = .ok (.bipush 6, 2) := by decide +kernel
theorem d_PF_drawFixed_68 : decode b_PF_drawFixed 68 = .ok (.iload 5, 2) := by decide +kernel
theorem d_PF_drawFixed_70 : decode b_PF_drawFixed 70 = .ok (.invokevirtual 171, 3) := by decide +kernel
