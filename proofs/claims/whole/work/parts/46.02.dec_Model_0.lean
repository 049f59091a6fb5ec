theorem d_Model_init_0 : decode b_Model_init 0 = .ok (.aload_n 0, 1) := by decide +kernel
theorem d_Model_init_1 : decode b_Model_init 1 = .ok (.invokespecial 1, 3) := by decide +kernel
theorem d_Model_init_4 : decode b_Model_init 4 = .ok (.aload_n 0, 1) := by decide +kernel
theorem d_Model_init_5 : decode b_Model_init 5 = .ok (.bipush 64, 2) := by decide +kernel
theorem d_Model_init_7 : decode b_Model_init 7 = .ok (.putfield 7, 3) := by decide +kernel
theorem d_Model_init_10 : decode b_Model_init 10 = .ok (.aload_n 0, 1) := by decide +kernel
theorem d_Model_init_11 : decode b_Model_init 11 = .ok (.bipush 64, 2) := by decide +kernel
theorem d_Model_init_13 : decode b_Model_init 13 = .ok (.putfield 13, 3) := by decide +kernel
theorem d_Model_init_16 : decode b_Model_init 16 = .ok (.aload_n 0, 1) := by decide +kernel
theorem d_Model_init_17 : decode b_Model_init 17 = .ok (.ldc 16, 2) := by decide +kernel
theorem d_Model_init_19 : decode b_Model_init 19 = .ok (.newarray .boolean, 2) := by decide +kernel
theorem d_Model_init_21 : decode b_Model_init 21 = .ok (.putfield 17, 3) := by decide +kernel
theorem d_Model_init_24 : decode b_Model_init 24 = .ok (.aload_n 0, 1) := by decide +kernel
theorem d_Model_init_25 : decode b_Model_init 25 = .ok (.ldc 21, 2) := by decide +kernel
theorem d_Model_init_27 : decode b_Model_init 27 = .ok (.newarray .int, 2) := by decide +kernel
theorem d_Model_init_29 : decode b_Model_init 29 = .ok (.putfield 22, 3) := by decide +kernel
theorem d_Model_init_32 : decode b_Model_init 32 = .ok (.aload_n 0, 1) := by decide +kernel
theorem d_Model_init_33 : decode b_Model_init 33 = .ok (.sipush 2100, 3) := by decide +kernel
theorem d_Model_init_36 : decode b_Model_init 36 = .ok (.newarray .int, 2) := by decide +kernel
theorem d_Model_init_38 : decode b_Model_init 38 = .ok (.putfield 26, 3) := by decide +kernel
theorem d_Model_init_41 : decode b_Model_init 41 = .ok (.aload_n 0, 1) := by decide +kernel
theorem d_Model_init_42 : decode b_Model_init 42 = .ok (.sipush 1800, 3) := by decide +kernel
theorem d_Model_init_45 : decode b_Model_init 45 = .ok (.newarray .int, 2) := by decide +kernel
theorem d_Model_init_47 : decode b_Model_init 47 = .ok (.putfield 29, 3) := by decide +kernel
theorem d_Model_init_50 : decode b_Model_init 50 = .ok (.aload_n 0, 1) := by decide +kernel
theorem d_Model_init_51 : decode b_Model_init 51 = .ok (.sipush 1800, 3) := by decide +kernel
theorem d_Model_init_54 : decode b_Model_init 54 = .ok (.newarray .int, 2) := by decide +kernel
theorem d_Model_init_56 : decode b_Model_init 56 = .ok (.putfield 32, 3) := by decide +kernel
theorem d_Model_init_59 : decode b_Model_init 59 = .ok (.return_, 1) := by decide +kernel
theorem d_Model_thrown_0 : decode b_Model_thrown 0 = .ok (.aload_n 0, 1) := by decide +kernel
theorem d_Model_thrown_1 : decode b_Model_thrown 1 = .ok (.getfield 35, 3) := by decide +kernel
theorem d_Model_thrown_4 : decode b_Model_thrown 4 = .ok (.ireturn, 1) := by decide +kernel
theorem d_Model_isOn_0 : decode b_Model_isOn 0 = .ok (.lload_n 1, 1) := by decide +kernel
theorem d_Model_isOn_1 : decode b_Model_isOn 1 = .ok (.lconst 0, 1) := by decide +kernel
theorem d_Model_isOn_2 : decode b_Model_isOn 2 = .ok (.lcmp, 1) := by decide +kernel
theorem d_Model_isOn_3 : decode b_Model_isOn 3 = .ok (.ifCond .lt 33, 3) := by decide +kernel
theorem d_Model_isOn_6 : decode b_Model_isOn 6 = .ok (.lload_n 1, 1) := by decide +kernel
theorem d_Model_isOn_7 : decode b_Model_isOn 7 = .ok (.aload_n 0, 1) := by decide +kernel
theorem d_Model_isOn_8 : decode b_Model_isOn 8 = .ok (.getfield 7, 3) := by decide +kernel
theorem d_Model_isOn_11 : decode b_Model_isOn 11 = .ok (.i2l, 1) := by decide +kernel
theorem d_Model_isOn_12 : decode b_Model_isOn 12 = .ok (.lcmp, 1) := by decide +kernel
theorem d_Model_isOn_13 : decode b_Model_isOn 13 = .ok (.ifCond .ge 23, 3) := by decide +kernel
theorem d_Model_isOn_16 : decode b_Model_isOn 16 = .ok (.lload_n 3, 1) := by decide +kernel
theorem d_Model_isOn_17 : decode b_Model_isOn 17 = .ok (.lconst 0, 1) := by decide +kernel
theorem d_Model_isOn_18 : decode b_Model_isOn 18 = .ok (.lcmp, 1) := by decide +kernel
theorem d_Model_isOn_19 : decode b_Model_isOn 19 = .ok (.ifCond .lt 17, 3) := by decide +kernel
theorem d_Model_isOn_22 : decode b_Model_isOn 22 = .ok (.lload_n 3, 1) := by decide +kernel
theorem d_Model_isOn_23 : decode b_Model_isOn 23 = .ok (.aload_n 0, 1) := by decide +kernel
theorem d_Model_isOn_24 : decode b_Model_isOn 24 = .ok (.getfield 13, 3) := by decide +kernel
theorem d_Model_isOn_27 : decode b_Model_isOn 27 = .ok (.i2l, 1) := by decide +kernel
theorem d_Model_isOn_28 : decode b_Model_isOn 28 = .ok (.lcmp, 1) := by decide +kernel
theorem d_Model_isOn_29 : decode b_Model_isOn 29 = .ok (.ifCond .ge 7, 3) := by decide +kernel
theorem d_Model_isOn_32 : decode b_Model_isOn 32 = .ok (.iconst 1, 1) := by decide +kernel
theorem d_Model_isOn_33 : decode b_Model_isOn 33 = .ok (.goto 4, 3) := by decide +kernel
theorem d_Model_isOn_36 : decode b_Model_isOn 36 = .ok (.iconst 0, 1) := by decide +kernel
theorem d_Model_isOn_37 : decode b_Model_isOn 37 = .ok (.ireturn, 1) := by decide +kernel
theorem d_Model_isDark_0 : decode b_Model_isDark 0 = .ok (.aload_n 0, 1) := by decide +kernel
theorem d_Model_isDark_1 : decode b_Model_isDark 1 = .ok (.getfield 17, 3) := by decide +kernel
theorem d_Model_isDark_4 : decode b_Model_isDark 4 = .ok (.sipush 512, 3) := by decide +kernel
theorem d_Model_isDark_7 : decode b_Model_isDark 7 = .ok (.iload_n 2, 1) := by decide +kernel
theorem d_Model_isDark_8 : decode b_Model_isDark 8 = .ok (.imul, 1) := by decide +kernel
theorem d_Model_isDark_9 : decode b_Model_isDark 9 = .ok (.iload_n 1, 1) := by decide +kernel
theorem d_Model_isDark_10 : decode b_Model_isDark 10 = .ok (.iadd, 1) := by decide +kernel
theorem d_Model_isDark_11 : decode b_Model_isDark 11 = .ok (.baload, 1) := by decide +kernel
theorem d_Model_isDark_12 : decode b_Model_isDark 12 = .ok (.ireturn, 1) := by decide +kernel
theorem d_Model_forget_0 : decode b_Model_forget 0 = .ok (.aload_n 0, 1) := by decide +kernel
theorem d_Model_forget_1 : decode b_Model_forget 1 = .ok (.iconst 0, 1) := by decide +kernel
theorem d_Model_forget_2 : decode b_Model_forget 2 = .ok (.putfield 38, 3) := by decide +kernel
theorem d_Model_forget_5 : decode b_Model_forget 5 = .ok (.aload_n 0, 1) := by decide +kernel
theorem d_Model_forget_6 : decode b_Model_forget 6 = .ok (.iconst 0, 1) := by decide +kernel
theorem d_Model_forget_7 : decode b_Model_forget 7 = .ok (.putfield 41, 3) := by decide +kernel
theorem d_Model_forget_10 : decode b_Model_forget 10 = .ok (.return_, 1) := by decide +kernel
theorem d_Model_sheet_0 : decode b_Model_sheet 0 = .ok (.aload_n 0, 1) := by decide +kernel
theorem d_Model_sheet_1 : decode b_Model_sheet 1 = .ok (.iload_n 1, 1) := by decide +kernel
theorem d_Model_sheet_2 : decode b_Model_sheet 2 = .ok (.iconst 1, 1) := by decide +kernel
theorem d_Model_sheet_3 : decode b_Model_sheet 3 = .ok (.if_icmp .lt 22, 3) := by decide +kernel
theorem d_Model_sheet_6 : decode b_Model_sheet 6 = .ok (.iload_n 1, 1) := by decide +kernel
theorem d_Model_sheet_7 : decode b_Model_sheet 7 = .ok (.sipush 512, 3) := by decide +kernel
theorem d_Model_sheet_10 : decode b_Model_sheet 10 = .ok (.if_icmp .gt 15, 3) := by decide +kernel
theorem d_Model_sheet_13 : decode b_Model_sheet 13 = .ok (.iload_n 2, 1) := by decide +kernel
theorem d_Model_sheet_14 : decode b_Model_sheet 14 = .ok (.iconst 1, 1) := by decide +kernel
theorem d_Model_sheet_15 : decode b_Model_sheet 15 = .ok (.if_icmp .lt 10, 3) := by decide +kernel
theorem d_Model_sheet_18 : decode b_Model_sheet 18 = .ok (.iload_n 2, 1) := by decide +kernel
theorem d_Model_sheet_19 : decode b_Model_sheet 19 = .ok (.sipush 512, 3) := by decide +kernel
theorem d_Model_sheet_22 : decode b_Model_sheet 22 = .ok (.if_icmp .le 7, 3) := by decide +kernel
theorem d_Model_sheet_25 : decode b_Model_sheet 25 = .ok (.iconst 1, 1) := by decide +kernel
theorem d_Model_sheet_26 : decode b_Model_sheet 26 = .ok (.goto 4, 3) := by decide +kernel
theorem d_Model_sheet_29 : decode b_Model_sheet 29 = .ok (.iconst 0, 1) := by decide +kernel
theorem d_Model_sheet_30 : decode b_Model_sheet 30 = .ok (.putfield 35, 3) := by decide +kernel
theorem d_Model_sheet_33 : decode b_Model_sheet 33 = .ok (.aload_n 0, 1) := by decide +kernel
theorem d_Model_sheet_34 : decode b_Model_sheet 34 = .ok (.getfield 35, 3) := by decide +kernel
theorem d_Model_sheet_37 : decode b_Model_sheet 37 = .ok (.ifCond .le 4, 3) := by decide +kernel
theorem d_Model_sheet_40 : decode b_Model_sheet 40 = .ok (.return_, 1) := by decide +kernel
theorem d_Model_sheet_41 : decode b_Model_sheet 41 = .ok (.aload_n 0, 1) := by decide +kernel
theorem d_Model_sheet_42 : decode b_Model_sheet 42 = .ok (.iload_n 1, 1) := by decide +kernel
theorem d_Model_sheet_43 : decode b_Model_sheet 43 = .ok (.putfield 7, 3) := by decide +kernel
theorem d_Model_sheet_46 : decode b_Model_sheet 46 = .ok (.aload_n 0, 1) := by decide +kernel
theorem d_Model_sheet_47 : decode b_Model_sheet 47 = .ok (.iload_n 2, 1) := by decide +kernel
theorem d_Model_sheet_48 : decode b_Model_sheet 48 = .ok (.putfield 13, 3) := by decide +kernel
theorem d_Model_sheet_51 : decode b_Model_sheet 51 = .ok (.iconst 0, 1) := by decide +kernel
theorem d_Model_sheet_52 : decode b_Model_sheet 52 = .ok (.istore_n 3, 1) := by decide +kernel
theorem d_Model_sheet_53 : decode b_Model_sheet 53 = .ok (.iload_n 3, 1) := by decide +kernel
theorem d_Model_sheet_54 : decode b_Model_sheet 54 = .ok (.ldc 16, 2) := by decide +kernel
theorem d_Model_sheet_56 : decode b_Model_sheet 56 = .ok (.if_icmp .ge 16, 3) := by decide +kernel
theorem d_Model_sheet_59 : decode b_Model_sheet 59 = .ok (.aload_n 0, 1) := by decide +kernel
theorem d_Model_sheet_60 : decode b_Model_sheet 60 = .ok (.getfield 17, 3) := by decide +kernel
theorem d_Model_sheet_63 : decode b_Model_sheet 63 = .ok (.iload_n 3, 1) := by decide +kernel
theorem d_Model_sheet_64 : decode b_Model_sheet 64 = .ok (.iconst 0, 1) := by decide +kernel
theorem d_Model_sheet_65 : decode b_Model_sheet 65 = .ok (.bastore, 1) := by decide +kernel
theorem d_Model_sheet_66 : decode b_Model_sheet 66 = .ok (.iinc 3 1, 3) := by decide +kernel
theorem d_Model_sheet_69 : decode b_Model_sheet 69 = .ok (.goto (-16), 3) := by decide +kernel
theorem d_Model_sheet_72 : decode b_Model_sheet 72 = .ok (.aload_n 0, 1) := by decide +kernel
theorem d_Model_sheet_73 : decode b_Model_sheet 73 = .ok (.invokevirtual 44, 3) := by decide +kernel
theorem d_Model_sheet_76 : decode b_Model_sheet 76 = .ok (.return_, 1) := by decide +kernel
theorem d_Model_turn_0 : decode b_Model_turn 0 = .ok (.aload_n 0, 1) := by decide +kernel
theorem d_Model_turn_1 : decode b_Model_turn 1 = .ok (.iconst 0, 1) := by decide +kernel
theorem d_Model_turn_2 : decode b_Model_turn 2 = .ok (.putfield 35, 3) := by decide +kernel
theorem d_Model_turn_5 : decode b_Model_turn 5 = .ok (.iconst 0, 1) := by decide +kernel
theorem d_Model_turn_6 : decode b_Model_turn 6 = .ok (.istore 5, 2) := by decide +kernel
theorem d_Model_turn_8 : decode b_Model_turn 8 = .ok (.iconst 0, 1) := by decide +kernel
theorem d_Model_turn_9 : decode b_Model_turn 9 = .ok (.istore 6, 2) := by decide +kernel
theorem d_Model_turn_11 : decode b_Model_turn 11 = .ok (.iload 6, 2) := by decide +kernel
theorem d_Model_turn_13 : decode b_Model_turn 13 = .ok (.bipush 64, 2) := by decide +kernel
theorem d_Model_turn_15 : decode b_Model_turn 15 = .ok (.if_icmp .ge 70, 3) := by decide +kernel
theorem d_Model_turn_18 : decode b_Model_turn 18 = .ok (.lload_n 3, 1) := by decide +kernel
theorem d_Model_turn_19 : decode b_Model_turn 19 = .ok (.iload 6, 2) := by decide +kernel
theorem d_Model_turn_21 : decode b_Model_turn 21 = .ok (.lshr, 1) := by decide +kernel
theorem d_Model_turn_22 : decode b_Model_turn 22 = .ok (.lconst 1, 1) := by decide +kernel
theorem d_Model_turn_23 : decode b_Model_turn 23 = .ok (.land, 1) := by decide +kernel
theorem d_Model_turn_24 : decode b_Model_turn 24 = .ok (.lconst 1, 1) := by decide +kernel
theorem d_Model_turn_25 : decode b_Model_turn 25 = .ok (.lcmp, 1) := by decide +kernel
theorem d_Model_turn_26 : decode b_Model_turn 26 = .ok (.ifCond .ne 53, 3) := by decide +kernel
theorem d_Model_turn_29 : decode b_Model_turn 29 = .ok (.aload_n 0, 1) := by decide +kernel
theorem d_Model_turn_30 : decode b_Model_turn 30 = .ok (.iload_n 1, 1) := by decide +kernel
theorem d_Model_turn_31 : decode b_Model_turn 31 = .ok (.i2l, 1) := by decide +kernel
theorem d_Model_turn_32 : decode b_Model_turn 32 = .ok (.iload 6, 2) := by decide +kernel
theorem d_Model_turn_34 : decode b_Model_turn 34 = .ok (.i2l, 1) := by decide +kernel
theorem d_Model_turn_35 : decode b_Model_turn 35 = .ok (.ladd, 1) := by decide +kernel
theorem d_Model_turn_36 : decode b_Model_turn 36 = .ok (.iload_n 2, 1) := by decide +kernel
theorem d_Model_turn_37 : decode b_Model_turn 37 = .ok (.i2l, 1) := by decide +kernel
theorem d_Model_turn_38 : decode b_Model_turn 38 = .ok (.invokevirtual 47, 3) := by decide +kernel
theorem d_Model_turn_41 : decode b_Model_turn 41 = .ok (.ifCond .eq 38, 3) := by decide +kernel
theorem d_Model_turn_44 : decode b_Model_turn 44 = .ok (.aload_n 0, 1) := by decide +kernel
theorem d_Model_turn_45 : decode b_Model_turn 45 = .ok (.getfield 17, 3) := by decide +kernel
theorem d_Model_turn_48 : decode b_Model_turn 48 = .ok (.sipush 512, 3) := by decide +kernel
theorem d_Model_turn_51 : decode b_Model_turn 51 = .ok (.iload_n 2, 1) := by decide +kernel
theorem d_Model_turn_52 : decode b_Model_turn 52 = .ok (.imul, 1) := by decide +kernel
theorem d_Model_turn_53 : decode b_Model_turn 53 = .ok (.iload_n 1, 1) := by decide +kernel
theorem d_Model_turn_54 : decode b_Model_turn 54 = .ok (.iadd, 1) := by decide +kernel
theorem d_Model_turn_55 : decode b_Model_turn 55 = .ok (.iload 6, 2) := by decide +kernel
theorem d_Model_turn_57 : decode b_Model_turn 57 = .ok (.iadd, 1) := by decide +kernel
theorem d_Model_turn_58 : decode b_Model_turn 58 = .ok (.aload_n 0, 1) := by decide +kernel
theorem d_Model_turn_59 : decode b_Model_turn 59 = .ok (.iload_n 1, 1) := by decide +kernel
theorem d_Model_turn_60 : decode b_Model_turn 60 = .ok (.iload 6, 2) := by decide +kernel
theorem d_Model_turn_62 : decode b_Model_turn 62 = .ok (.iadd, 1) := by decide +kernel
theorem d_Model_turn_63 : decode b_Model_turn 63 = .ok (.iload_n 2, 1) := by decide +kernel
theorem d_Model_turn_64 : decode b_Model_turn 64 = .ok (.invokevirtual 51, 3) := by decide +kernel
theorem d_Model_turn_67 : decode b_Model_turn 67 = .ok (.ifCond .ne 7, 3) := by decide +kernel
theorem d_Model_turn_70 : decode b_Model_turn 70 = .ok (.iconst 1, 1) := by decide +kernel
theorem d_Model_turn_71 : decode b_Model_turn 71 = .ok (.goto 4, 3) := by decide +kernel
theorem d_Model_turn_74 : decode b_Model_turn 74 = .ok (.iconst 0, 1) := by decide +kernel
theorem d_Model_turn_75 : decode b_Model_turn 75 = .ok (.bastore, 1) := by decide +kernel
theorem d_Model_turn_76 : decode b_Model_turn 76 = .ok (.iinc 5 1, 3) := by decide +kernel
theorem d_Model_turn_79 : decode b_Model_turn 79 = .ok (.iinc 6 1, 3) := by decide +kernel
theorem d_Model_turn_82 : decode b_Model_turn 82 = .ok (.goto (-71), 3) := by decide +kernel
theorem d_Model_turn_85 : decode b_Model_turn 85 = .ok (.iload 5, 2) := by decide +kernel
theorem d_Model_turn_87 : decode b_Model_turn 87 = .ok (.ireturn, 1) := by decide +kernel
theorem d_Model_fill_0 : decode b_Model_fill 0 = .ok (.aload_n 0, 1) := by decide +kernel
theorem d_Model_fill_1 : decode b_Model_fill 1 = .ok (.iload_n 3, 1) := by decide +kernel
theorem d_Model_fill_2 : decode b_Model_fill 2 = .ok (.iconst 1, 1) := by decide +kernel
theorem d_Model_fill_3 : decode b_Model_fill 3 = .ok (.if_icmp .lt 24, 3) := by decide +kernel
theorem d_Model_fill_6 : decode b_Model_fill 6 = .ok (.iload_n 3, 1) := by decide +kernel
theorem d_Model_fill_7 : decode b_Model_fill 7 = .ok (.sipush 512, 3) := by decide +kernel
theorem d_Model_fill_10 : decode b_Model_fill 10 = .ok (.if_icmp .gt 17, 3) := by decide +kernel
theorem d_Model_fill_13 : decode b_Model_fill 13 = .ok (.iload 4, 2) := by decide +kernel
theorem d_Model_fill_15 : decode b_Model_fill 15 = .ok (.iconst 1, 1) := by decide +kernel
theorem d_Model_fill_16 : decode b_Model_fill 16 = .ok (.if_icmp .lt 11, 3) := by decide +kernel
theorem d_Model_fill_19 : decode b_Model_fill 19 = .ok (.iload 4, 2) := by decide +kernel
theorem d_Model_fill_21 : decode b_Model_fill 21 = .ok (.sipush 512, 3) := by decide +kernel
theorem d_Model_fill_24 : decode b_Model_fill 24 = .ok (.if_icmp .le 7, 3) := by decide +kernel
theorem d_Model_fill_27 : decode b_Model_fill 27 = .ok (.iconst 1, 1) := by decide +kernel
theorem d_Model_fill_28 : decode b_Model_fill 28 = .ok (.goto 4, 3) := by decide +kernel
theorem d_Model_fill_31 : decode b_Model_fill 31 = .ok (.iconst 0, 1) := by decide +kernel
theorem d_Model_fill_32 : decode b_Model_fill 32 = .ok (.putfield 35, 3) := by decide +kernel
theorem d_Model_fill_35 : decode b_Model_fill 35 = .ok (.iconst 0, 1) := by decide +kernel
theorem d_Model_fill_36 : decode b_Model_fill 36 = .ok (.istore 6, 2) := by decide +kernel
theorem d_Model_fill_38 : decode b_Model_fill 38 = .ok (.iconst 0, 1) := by decide +kernel
theorem d_Model_fill_39 : decode b_Model_fill 39 = .ok (.istore 7, 2) := by decide +kernel
theorem d_Model_fill_41 : decode b_Model_fill 41 = .ok (.iload 7, 2) := by decide +kernel
theorem d_Model_fill_43 : decode b_Model_fill 43 = .ok (.aload_n 0, 1) := by decide +kernel
theorem d_Model_fill_44 : decode b_Model_fill 44 = .ok (.getfield 13, 3) := by decide +kernel
theorem d_Model_fill_47 : decode b_Model_fill 47 = .ok (.if_icmp .ge 115, 3) := by decide +kernel
theorem d_Model_fill_50 : decode b_Model_fill 50 = .ok (.aload_n 0, 1) := by decide +kernel
theorem d_Model_fill_51 : decode b_Model_fill 51 = .ok (.getfield 35, 3) := by decide +kernel
theorem d_Model_fill_54 : decode b_Model_fill 54 = .ok (.ifCond .ne 108, 3) := by decide +kernel
theorem d_Model_fill_57 : decode b_Model_fill 57 = .ok (.iconst 0, 1) := by decide +kernel
theorem d_Model_fill_58 : decode b_Model_fill 58 = .ok (.istore 8, 2) := by decide +kernel
theorem d_Model_fill_60 : decode b_Model_fill 60 = .ok (.iload 8, 2) := by decide +kernel
theorem d_Model_fill_62 : decode b_Model_fill 62 = .ok (.aload_n 0, 1) := by decide +kernel
theorem d_Model_fill_63 : decode b_Model_fill 63 = .ok (.getfield 7, 3) := by decide +kernel
theorem d_Model_fill_66 : decode b_Model_fill 66 = .ok (.if_icmp .ge 90, 3) := by decide +kernel
theorem d_Model_fill_69 : decode b_Model_fill 69 = .ok (.iload 8, 2) := by decide +kernel
theorem d_Model_fill_71 : decode b_Model_fill 71 = .ok (.iload_n 1, 1) := by decide +kernel
theorem d_Model_fill_72 : decode b_Model_fill 72 = .ok (.if_icmp .lt 38, 3) := by decide +kernel
theorem d_Model_fill_75 : decode b_Model_fill 75 = .ok (.iload 8, 2) := by decide +kernel
theorem d_Model_fill_77 : decode b_Model_fill 77 = .ok (.i2l, 1) := by decide +kernel
theorem d_Model_fill_78 : decode b_Model_fill 78 = .ok (.iload_n 1, 1) := by decide +kernel
theorem d_Model_fill_79 : decode b_Model_fill 79 = .ok (.i2l, 1) := by decide +kernel
theorem d_Model_fill_80 : decode b_Model_fill 80 = .ok (.iload_n 3, 1) := by decide +kernel
theorem d_Model_fill_81 : decode b_Model_fill 81 = .ok (.i2l, 1) := by decide +kernel
theorem d_Model_fill_82 : decode b_Model_fill 82 = .ok (.ladd, 1) := by decide +kernel
theorem d_Model_fill_83 : decode b_Model_fill 83 = .ok (.lcmp, 1) := by decide +kernel
theorem d_Model_fill_84 : decode b_Model_fill 84 = .ok (.ifCond .ge 26, 3) := by decide +kernel
theorem d_Model_fill_87 : decode b_Model_fill 87 = .ok (.iload 7, 2) := by decide +kernel
theorem d_Model_fill_89 : decode b_Model_fill 89 = .ok (.iload_n 2, 1) := by decide +kernel
theorem d_Model_fill_90 : decode b_Model_fill 90 = .ok (.if_icmp .lt 20, 3) := by decide +kernel
theorem d_Model_fill_93 : decode b_Model_fill 93 = .ok (.iload 7, 2) := by decide +kernel
theorem d_Model_fill_95 : decode b_Model_fill 95 = .ok (.i2l, 1) := by decide +kernel
theorem d_Model_fill_96 : decode b_Model_fill 96 = .ok (.iload_n 2, 1) := by decide +kernel
theorem d_Model_fill_97 : decode b_Model_fill 97 = .ok (.i2l, 1) := by decide +kernel
theorem d_Model_fill_98 : decode b_Model_fill 98 = .ok (.iload 4, 2) := by decide +kernel
theorem d_Model_fill_100 : decode b_Model_fill 100 = .ok (.i2l, 1) := by decide +kernel
theorem d_Model_fill_101 : decode b_Model_fill 101 = .ok (.ladd, 1) := by decide +kernel
theorem d_Model_fill_102 : decode b_Model_fill 102 = .ok (.lcmp, 1) := by decide +kernel
theorem d_Model_fill_103 : decode b_Model_fill 103 = .ok (.ifCond .ge 7, 3) := by decide +kernel
theorem d_Model_fill_106 : decode b_Model_fill 106 = .ok (.iconst 1, 1) := by decide +kernel
theorem d_Model_fill_107 : decode b_Model_fill 107 = .ok (.goto 4, 3) := by decide +kernel
theorem d_Model_fill_110 : decode b_Model_fill 110 = .ok (.iconst 0, 1) := by decide +kernel
theorem d_Model_fill_111 : decode b_Model_fill 111 = .ok (.istore 9, 2) := by decide +kernel
theorem d_Model_fill_113 : decode b_Model_fill 113 = .ok (.iload 9, 2) := by decide +kernel
theorem d_Model_fill_115 : decode b_Model_fill 115 = .ok (.ifCond .eq 35, 3) := by decide +kernel
theorem d_Model_fill_118 : decode b_Model_fill 118 = .ok (.aload_n 0, 1) := by decide +kernel
theorem d_Model_fill_119 : decode b_Model_fill 119 = .ok (.iload 8, 2) := by decide +kernel
theorem d_Model_fill_121 : decode b_Model_fill 121 = .ok (.iload 7, 2) := by decide +kernel
theorem d_Model_fill_123 : decode b_Model_fill 123 = .ok (.invokevirtual 51, 3) := by decide +kernel
theorem d_Model_fill_126 : decode b_Model_fill 126 = .ok (.iload 5, 2) := by decide +kernel
theorem d_Model_fill_128 : decode b_Model_fill 128 = .ok (.if_icmp .eq 22, 3) := by decide +kernel
theorem d_Model_fill_131 : decode b_Model_fill 131 = .ok (.aload_n 0, 1) := by decide +kernel
theorem d_Model_fill_132 : decode b_Model_fill 132 = .ok (.getfield 17, 3) := by decide +kernel
theorem d_Model_fill_135 : decode b_Model_fill 135 = .ok (.sipush 512, 3) := by decide +kernel
theorem d_Model_fill_138 : decode b_Model_fill 138 = .ok (.iload 7, 2) := by decide +kernel
theorem d_Model_fill_140 : decode b_Model_fill 140 = .ok (.imul, 1) := by decide +kernel
theorem d_Model_fill_141 : decode b_Model_fill 141 = .ok (.iload 8, 2) := by decide +kernel
theorem d_Model_fill_143 : decode b_Model_fill 143 = .ok (.iadd, 1) := by decide +kernel
theorem d_Model_fill_144 : decode b_Model_fill 144 = .ok (.iload 5, 2) := by decide +kernel
theorem d_Model_fill_146 : decode b_Model_fill 146 = .ok (.bastore, 1) := by decide +kernel
theorem d_Model_fill_147 : decode b_Model_fill 147 = .ok (.iinc 6 1, 3) := by decide +kernel
theorem d_Model_fill_150 : decode b_Model_fill 150 = .ok (.iinc 8 1, 3) := by decide +kernel
theorem d_Model_fill_153 : decode b_Model_fill 153 = .ok (.goto (-93), 3) := by decide +kernel
theorem d_Model_fill_156 : decode b_Model_fill 156 = .ok (.iinc 7 1, 3) := by decide +kernel
theorem d_Model_fill_159 : decode b_Model_fill 159 = .ok (.goto (-118), 3) := by decide +kernel
theorem d_Model_fill_162 : decode b_Model_fill 162 = .ok (.iload 6, 2) := by decide +kernel
theorem d_Model_fill_164 : decode b_Model_fill 164 = .ok (.ireturn, 1) := by decide +kernel
theorem d_Model_dots_0 : decode b_Model_dots 0 = .ok (.aload_n 0, 1) := by decide +kernel
theorem d_Model_dots_1 : decode b_Model_dots 1 = .ok (.iconst 0, 1) := by decide +kernel
theorem d_Model_dots_2 : decode b_Model_dots 2 = .ok (.putfield 35, 3) := by decide +kernel
theorem d_Model_dots_5 : decode b_Model_dots 5 = .ok (.lconst 0, 1) := by decide +kernel
theorem d_Model_dots_6 : decode b_Model_dots 6 = .ok (.lstore_n 3, 1) := by decide +kernel
theorem d_Model_dots_7 : decode b_Model_dots 7 = .ok (.iconst 0, 1) := by decide +kernel
theorem d_Model_dots_8 : decode b_Model_dots 8 = .ok (.istore 5, 2) := by decide +kernel
theorem d_Model_dots_10 : decode b_Model_dots 10 = .ok (.iload 5, 2) := by decide +kernel
theorem d_Model_dots_12 : decode b_Model_dots 12 = .ok (.bipush 64, 2) := by decide +kernel
theorem d_Model_dots_14 : decode b_Model_dots 14 = .ok (.if_icmp .ge 43, 3) := by decide +kernel
theorem d_Model_dots_17 : decode b_Model_dots 17 = .ok (.aload_n 0, 1) := by decide +kernel
theorem d_Model_dots_18 : decode b_Model_dots 18 = .ok (.iload_n 1, 1) := by decide +kernel
theorem d_Model_dots_19 : decode b_Model_dots 19 = .ok (.i2l, 1) := by decide +kernel
theorem d_Model_dots_20 : decode b_Model_dots 20 = .ok (.iload 5, 2) := by decide +kernel
theorem d_Model_dots_22 : decode b_Model_dots 22 = .ok (.i2l, 1) := by decide +kernel
theorem d_Model_dots_23 : decode b_Model_dots 23 = .ok (.ladd, 1) := by decide +kernel
theorem d_Model_dots_24 : decode b_Model_dots 24 = .ok (.iload_n 2, 1) := by decide +kernel
theorem d_Model_dots_25 : decode b_Model_dots 25 = .ok (.i2l, 1) := by decide +kernel
theorem d_Model_dots_26 : decode b_Model_dots 26 = .ok (.invokevirtual 47, 3) := by decide +kernel
theorem d_Model_dots_29 : decode b_Model_dots 29 = .ok (.ifCond .eq 22, 3) := by decide +kernel
theorem d_Model_dots_32 : decode b_Model_dots 32 = .ok (.aload_n 0, 1) := by decide +kernel
theorem d_Model_dots_33 : decode b_Model_dots 33 = .ok (.iload_n 1, 1) := by decide +kernel
theorem d_Model_dots_34 : decode b_Model_dots 34 = .ok (.iload 5, 2) := by decide +kernel
theorem d_Model_dots_36 : decode b_Model_dots 36 = .ok (.iadd, 1) := by decide +kernel
theorem d_Model_dots_37 : decode b_Model_dots 37 = .ok (.iload_n 2, 1) := by decide +kernel
theorem d_Model_dots_38 : decode b_Model_dots 38 = .ok (.invokevirtual 51, 3) := by decide +kernel
theorem d_Model_dots_41 : decode b_Model_dots 41 = .ok (.ifCond .eq 10, 3) := by decide +kernel
theorem d_Model_dots_44 : decode b_Model_dots 44 = .ok (.lload_n 3, 1) := by decide +kernel
theorem d_Model_dots_45 : decode b_Model_dots 45 = .ok (.lconst 1, 1) := by decide +kernel
theorem d_Model_dots_46 : decode b_Model_dots 46 = .ok (.iload 5, 2) := by decide +kernel
theorem d_Model_dots_48 : decode b_Model_dots 48 = .ok (.lshl, 1) := by decide +kernel
theorem d_Model_dots_49 : decode b_Model_dots 49 = .ok (.lor, 1) := by decide +kernel
theorem d_Model_dots_50 : decode b_Model_dots 50 = .ok (.lstore_n 3, 1) := by decide +kernel
theorem d_Model_dots_51 : decode b_Model_dots 51 = .ok (.iinc 5 1, 3) := by decide +kernel
theorem d_Model_dots_54 : decode b_Model_dots 54 = .ok (.goto (-44), 3) := by decide +kernel
theorem d_Model_dots_57 : decode b_Model_dots 57 = .ok (.lload_n 3, 1) := by decide +kernel
theorem d_Model_dots_58 : decode b_Model_dots 58 = .ok (.lreturn, 1) := by decide +kernel
theorem d_Model_side_0 : decode b_Model_side 0 = .ok (.bipush 17, 2) := by decide +kernel
theorem d_Model_side_2 : decode b_Model_side 2 = .ok (.iconst 4, 1) := by decide +kernel
theorem d_Model_side_3 : decode b_Model_side 3 = .ok (.iload_n 0, 1) := by decide +kernel
theorem d_Model_side_4 : decode b_Model_side 4 = .ok (.imul, 1) := by decide +kernel
theorem d_Model_side_5 : decode b_Model_side 5 = .ok (.iadd, 1) := by decide +kernel
theorem d_Model_side_6 : decode b_Model_side 6 = .ok (.ireturn, 1) := by decide +kernel
theorem d_Model_apart_0 : decode b_Model_apart 0 = .ok (.iload_n 0, 1) := by decide +kernel
theorem d_Model_apart_1 : decode b_Model_apart 1 = .ok (.iload_n 1, 1) := by decide +kernel
theorem d_Model_apart_2 : decode b_Model_apart 2 = .ok (.if_icmp .ge 9, 3) := by decide +kernel
theorem d_Model_apart_5 : decode b_Model_apart 5 = .ok (.iload_n 1, 1) := by decide +kernel
theorem d_Model_apart_6 : decode b_Model_apart 6 = .ok (.iload_n 0, 1) := by decide +kernel
theorem d_Model_apart_7 : decode b_Model_apart 7 = .ok (.isub, 1) := by decide +kernel
theorem d_Model_apart_8 : decode b_Model_apart 8 = .ok (.goto 6, 3) := by decide +kernel
theorem d_Model_apart_11 : decode b_Model_apart 11 = .ok (.iload_n 0, 1) := by decide +kernel
theorem d_Model_apart_12 : decode b_Model_apart 12 = .ok (.iload_n 1, 1) := by decide +kernel
theorem d_Model_apart_13 : decode b_Model_apart 13 = .ok (.isub, 1) := by decide +kernel
theorem d_Model_apart_14 : decode b_Model_apart 14 = .ok (.ireturn, 1) := by decide +kernel
theorem d_Model_distance_0 : decode b_Model_distance 0 = .ok (.iload_n 0, 1) := by decide +kernel
theorem d_Model_distance_1 : decode b_Model_distance 1 = .ok (.iload_n 2, 1) := by decide +kernel
theorem d_Model_distance_2 : decode b_Model_distance 2 = .ok (.invokestatic 55, 3) := by decide +kernel
theorem d_Model_distance_5 : decode b_Model_distance 5 = .ok (.iload_n 1, 1) := by decide +kernel
theorem d_Model_distance_6 : decode b_Model_distance 6 = .ok (.iload_n 3, 1) := by decide +kernel
theorem d_Model_distance_7 : decode b_Model_distance 7 = .ok (.invokestatic 55, 3) := by decide +kernel
theorem d_Model_distance_10 : decode b_Model_distance 10 = .ok (.if_icmp .le 11, 3) := by decide +kernel
theorem d_Model_distance_13 : decode b_Model_distance 13 = .ok (.iload_n 0, 1) := by decide +kernel
theorem d_Model_distance_14 : decode b_Model_distance 14 = .ok (.iload_n 2, 1) := by decide +kernel
theorem d_Model_distance_15 : decode b_Model_distance 15 = .ok (.invokestatic 55, 3) := by decide +kernel
theorem d_Model_distance_18 : decode b_Model_distance 18 = .ok (.goto 8, 3) := by decide +kernel
theorem d_Model_distance_21 : decode b_Model_distance 21 = .ok (.iload_n 1, 1) := by decide +kernel
theorem d_Model_distance_22 : decode b_Model_distance 22 = .ok (.iload_n 3, 1) := by decide +kernel
theorem d_Model_distance_23 : decode b_Model_distance 23 = .ok (.invokestatic 55, 3) := by decide +kernel
theorem d_Model_distance_26 : decode b_Model_distance 26 = .ok (.ireturn, 1) := by decide +kernel
theorem d_Model_module_0 : decode b_Model_module 0 = .ok (.iload_n 0, 1) := by decide +kernel
theorem d_Model_module_1 : decode b_Model_module 1 = .ok (.invokestatic 59, 3) := by decide +kernel
theorem d_Model_module_4 : decode b_Model_module 4 = .ok (.istore_n 3, 1) := by decide +kernel
theorem d_Model_module_5 : decode b_Model_module 5 = .ok (.iload_n 1, 1) := by decide +kernel
theorem d_Model_module_6 : decode b_Model_module 6 = .ok (.iload_n 2, 1) := by decide +kernel
theorem d_Model_module_7 : decode b_Model_module 7 = .ok (.iconst 3, 1) := by decide +kernel
theorem d_Model_module_8 : decode b_Model_module 8 = .ok (.iconst 3, 1) := by decide +kernel
theorem d_Model_module_9 : decode b_Model_module 9 = .ok (.invokestatic 63, 3) := by decide +kernel
theorem d_Model_module_12 : decode b_Model_module 12 = .ok (.istore 4, 2) := by decide +kernel
theorem d_Model_module_14 : decode b_Model_module 14 = .ok (.iload 4, 2) := by decide +kernel
theorem d_Model_module_16 : decode b_Model_module 16 = .ok (.iconst 4, 1) := by decide +kernel
theorem d_Model_module_17 : decode b_Model_module 17 = .ok (.if_icmp .le 15, 3) := by decide +kernel
theorem d_Model_module_20 : decode b_Model_module 20 = .ok (.iload_n 1, 1) := by decide +kernel
theorem d_Model_module_21 : decode b_Model_module 21 = .ok (.iload_n 2, 1) := by decide +kernel
theorem d_Model_module_22 : decode b_Model_module 22 = .ok (.iload_n 3, 1) := by decide +kernel
theorem d_Model_module_23 : decode b_Model_module 23 = .ok (.iconst 4, 1) := by decide +kernel
theorem d_Model_module_24 : decode b_Model_module 24 = .ok (.isub, 1) := by decide +kernel
theorem d_Model_module_25 : decode b_Model_module 25 = .ok (.iconst 3, 1) := by decide +kernel
theorem d_Model_module_26 : decode b_Model_module 26 = .ok (.invokestatic 63, 3) := by decide +kernel
theorem d_Model_module_29 : decode b_Model_module 29 = .ok (.goto 5, 3) := by decide +kernel
theorem d_Model_module_32 : decode b_Model_module 32 = .ok (.iload 4, 2) := by decide +kernel
theorem d_Model_module_34 : decode b_Model_module 34 = .ok (.istore 4, 2) := by decide +kernel
theorem d_Model_module_36 : decode b_Model_module 36 = .ok (.iload 4, 2) := by decide +kernel
theorem d_Model_module_38 : decode b_Model_module 38 = .ok (.iconst 4, 1) := by decide +kernel
theorem d_Model_module_39 : decode b_Model_module 39 = .ok (.if_icmp .le 15, 3) := by decide +kernel
theorem d_Model_module_42 : decode b_Model_module 42 = .ok (.iload_n 1, 1) := by decide +kernel
theorem d_Model_module_43 : decode b_Model_module 43 = .ok (.iload_n 2, 1) := by decide +kernel
theorem d_Model_module_44 : decode b_Model_module 44 = .ok (.iconst 3, 1) := by decide +kernel
theorem d_Model_module_45 : decode b_Model_module 45 = .ok (.iload_n 3, 1) := by decide +kernel
theorem d_Model_module_46 : decode b_Model_module 46 = .ok (.iconst 4, 1) := by decide +kernel
theorem d_Model_module_47 : decode b_Model_module 47 = .ok (.isub, 1) := by decide +kernel
theorem d_Model_module_48 : decode b_Model_module 48 = .ok (.invokestatic 63, 3) := by decide +kernel
theorem d_Model_module_51 : decode b_Model_module 51 = .ok (.goto 5, 3) := by decide +kernel
theorem d_Model_module_54 : decode b_Model_module 54 = .ok (.iload 4, 2) := by decide +kernel
theorem d_Model_module_56 : decode b_Model_module 56 = .ok (.istore 4, 2) := by decide +kernel
theorem d_Model_module_58 : decode b_Model_module 58 = .ok (.iload 4, 2) := by decide +kernel
theorem d_Model_module_60 : decode b_Model_module 60 = .ok (.iconst 4, 1) := by decide +kernel
theorem d_Model_module_61 : decode b_Model_module 61 = .ok (.if_icmp .gt 21, 3) := by decide +kernel
theorem d_Model_module_64 : decode b_Model_module 64 = .ok (.iload 4, 2) := by decide +kernel
theorem d_Model_module_66 : decode b_Model_module 66 = .ok (.iconst 2, 1) := by decide +kernel
theorem d_Model_module_67 : decode b_Model_module 67 = .ok (.if_icmp .eq 9, 3) := by decide +kernel
theorem d_Model_module_70 : decode b_Model_module 70 = .ok (.iload 4, 2) := by decide +kernel
theorem d_Model_module_72 : decode b_Model_module 72 = .ok (.iconst 4, 1) := by decide +kernel
theorem d_Model_module_73 : decode b_Model_module 73 = .ok (.if_icmp .ne 7, 3) := by decide +kernel
theorem d_Model_module_76 : decode b_Model_module 76 = .ok (.iconst 0, 1) := by decide +kernel
theorem d_Model_module_77 : decode b_Model_module 77 = .ok (.goto 4, 3) := by decide +kernel
theorem d_Model_module_80 : decode b_Model_module 80 = .ok (.iconst 1, 1) := by decide +kernel
theorem d_Model_module_81 : decode b_Model_module 81 = .ok (.ireturn, 1) := by decide +kernel
theorem d_Model_module_82 : decode b_Model_module 82 = .ok (.iload_n 2, 1) := by decide +kernel
theorem d_Model_module_83 : decode b_Model_module 83 = .ok (.bipush 6, 2) := by decide +kernel
theorem d_Model_module_85 : decode b_Model_module 85 = .ok (.if_icmp .ne 29, 3) := by decide +kernel
theorem d_Model_module_88 : decode b_Model_module 88 = .ok (.iload_n 1, 1) := by decide +kernel
theorem d_Model_module_89 : decode b_Model_module 89 = .ok (.bipush 8, 2) := by decide +kernel
theorem d_Model_module_91 : decode b_Model_module 91 = .ok (.if_icmp .lt 23, 3) := by decide +kernel
theorem d_Model_module_94 : decode b_Model_module 94 = .ok (.iload_n 1, 1) := by decide +kernel
theorem d_Model_module_95 : decode b_Model_module 95 = .ok (.iload_n 3, 1) := by decide +kernel
theorem d_Model_module_96 : decode b_Model_module 96 = .ok (.bipush 9, 2) := by decide +kernel
theorem d_Model_module_98 : decode b_Model_module 98 = .ok (.isub, 1) := by decide +kernel
theorem d_Model_module_99 : decode b_Model_module 99 = .ok (.if_icmp .gt 15, 3) := by decide +kernel
theorem d_Model_module_102 : decode b_Model_module 102 = .ok (.iload_n 1, 1) := by decide +kernel
theorem d_Model_module_103 : decode b_Model_module 103 = .ok (.iconst 2, 1) := by decide +kernel
theorem d_Model_module_104 : decode b_Model_module 104 = .ok (.irem, 1) := by decide +kernel
theorem d_Model_module_105 : decode b_Model_module 105 = .ok (.ifCond .ne 7, 3) := by decide +kernel
theorem d_Model_module_108 : decode b_Model_module 108 = .ok (.iconst 1, 1) := by decide +kernel
theorem d_Model_module_109 : decode b_Model_module 109 = .ok (.goto 4, 3) := by decide +kernel
theorem d_Model_module_112 : decode b_Model_module 112 = .ok (.iconst 0, 1) := by decide +kernel
theorem d_Model_module_113 : decode b_Model_module 113 = .ok (.ireturn, 1) := by decide +kernel
theorem d_Model_module_114 : decode b_Model_module 114 = .ok (.iload_n 1, 1) := by decide +kernel
theorem d_Model_module_115 : decode b_Model_module 115 = .ok (.bipush 6, 2) := by decide +kernel
theorem d_Model_module_117 : decode b_Model_module 117 = .ok (.if_icmp .ne 29, 3) := by decide +kernel
theorem d_Model_module_120 : decode b_Model_module 120 = .ok (.iload_n 2, 1) := by decide +kernel
theorem d_Model_module_121 : decode b_Model_module 121 = .ok (.bipush 8, 2) := by decide +kernel
theorem d_Model_module_123 : decode b_Model_module 123 = .ok (.if_icmp .lt 23, 3) := by decide +kernel
theorem d_Model_module_126 : decode b_Model_module 126 = .ok (.iload_n 2, 1) := by decide +kernel
theorem d_Model_module_127 : decode b_Model_module 127 = .ok (.iload_n 3, 1) := by decide +kernel
theorem d_Model_module_128 : decode b_Model_module 128 = .ok (.bipush 9, 2) := by decide +kernel
theorem d_Model_module_130 : decode b_Model_module 130 = .ok (.isub, 1) := by decide +kernel
theorem d_Model_module_131 : decode b_Model_module 131 = .ok (.if_icmp .gt 15, 3) := by decide +kernel
