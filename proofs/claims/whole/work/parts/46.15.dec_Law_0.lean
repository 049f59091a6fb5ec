theorem d_Law_sheet_0 : decode b_Law_sheet 0 = .ok (.aload_n 0, 1) := by decide +kernel
theorem d_Law_sheet_1 : decode b_Law_sheet 1 = .ok (.iload_n 1, 1) := by decide +kernel
theorem d_Law_sheet_2 : decode b_Law_sheet 2 = .ok (.iload_n 2, 1) := by decide +kernel
theorem d_Law_sheet_3 : decode b_Law_sheet 3 = .ok (.invokevirtual 7, 3) := by decide +kernel
theorem d_Law_sheet_6 : decode b_Law_sheet 6 = .ok (.goto 6, 3) := by decide +kernel
theorem d_Law_sheet_9 : decode b_Law_sheet 9 = .ok (.astore_n 3, 1) := by decide +kernel
theorem d_Law_sheet_10 : decode b_Law_sheet 10 = .ok (.iconst 1, 1) := by decide +kernel
theorem d_Law_sheet_11 : decode b_Law_sheet 11 = .ok (.ireturn, 1) := by decide +kernel
theorem d_Law_sheet_12 : decode b_Law_sheet 12 = .ok (.iconst 0, 1) := by decide +kernel
theorem d_Law_sheet_13 : decode b_Law_sheet 13 = .ok (.ireturn, 1) := by decide +kernel
theorem d_Law_fill_0 : decode b_Law_fill 0 = .ok (.aload 6, 2) := by decide +kernel
theorem d_Law_fill_2 : decode b_Law_fill 2 = .ok (.iconst 0, 1) := by decide +kernel
theorem d_Law_fill_3 : decode b_Law_fill 3 = .ok (.aload_n 0, 1) := by decide +kernel
theorem d_Law_fill_4 : decode b_Law_fill 4 = .ok (.iload_n 1, 1) := by decide +kernel
theorem d_Law_fill_5 : decode b_Law_fill 5 = .ok (.iload_n 2, 1) := by decide +kernel
theorem d_Law_fill_6 : decode b_Law_fill 6 = .ok (.iload_n 3, 1) := by decide +kernel
theorem d_Law_fill_7 : decode b_Law_fill 7 = .ok (.iload 4, 2) := by decide +kernel
theorem d_Law_fill_9 : decode b_Law_fill 9 = .ok (.iload 5, 2) := by decide +kernel
theorem d_Law_fill_11 : decode b_Law_fill 11 = .ok (.invokevirtual 15, 3) := by decide +kernel
theorem d_Law_fill_14 : decode b_Law_fill 14 = .ok (.i2l, 1) := by decide +kernel
theorem d_Law_fill_15 : decode b_Law_fill 15 = .ok (.lastore, 1) := by decide +kernel
theorem d_Law_fill_16 : decode b_Law_fill 16 = .ok (.goto 7, 3) := by decide +kernel
theorem d_Law_fill_19 : decode b_Law_fill 19 = .ok (.astore 7, 2) := by decide +kernel
theorem d_Law_fill_21 : decode b_Law_fill 21 = .ok (.iconst 1, 1) := by decide +kernel
theorem d_Law_fill_22 : decode b_Law_fill 22 = .ok (.ireturn, 1) := by decide +kernel
theorem d_Law_fill_23 : decode b_Law_fill 23 = .ok (.iconst 0, 1) := by decide +kernel
theorem d_Law_fill_24 : decode b_Law_fill 24 = .ok (.ireturn, 1) := by decide +kernel
theorem d_Law_draw_0 : decode b_Law_draw 0 = .ok (.aload 4, 2) := by decide +kernel
theorem d_Law_draw_2 : decode b_Law_draw 2 = .ok (.iconst 0, 1) := by decide +kernel
theorem d_Law_draw_3 : decode b_Law_draw 3 = .ok (.aload_n 0, 1) := by decide +kernel
theorem d_Law_draw_4 : decode b_Law_draw 4 = .ok (.iload_n 1, 1) := by decide +kernel
theorem d_Law_draw_5 : decode b_Law_draw 5 = .ok (.iload_n 2, 1) := by decide +kernel
theorem d_Law_draw_6 : decode b_Law_draw 6 = .ok (.iload_n 3, 1) := by decide +kernel
theorem d_Law_draw_7 : decode b_Law_draw 7 = .ok (.invokevirtual 19, 3) := by decide +kernel
theorem d_Law_draw_10 : decode b_Law_draw 10 = .ok (.i2l, 1) := by decide +kernel
theorem d_Law_draw_11 : decode b_Law_draw 11 = .ok (.lastore, 1) := by decide +kernel
theorem d_Law_draw_12 : decode b_Law_draw 12 = .ok (.goto 7, 3) := by decide +kernel
theorem d_Law_draw_15 : decode b_Law_draw 15 = .ok (.astore 5, 2) := by decide +kernel
theorem d_Law_draw_17 : decode b_Law_draw 17 = .ok (.iconst 1, 1) := by decide +kernel
theorem d_Law_draw_18 : decode b_Law_draw 18 = .ok (.ireturn, 1) := by decide +kernel
theorem d_Law_draw_19 : decode b_Law_draw 19 = .ok (.iconst 0, 1) := by decide +kernel
theorem d_Law_draw_20 : decode b_Law_draw 20 = .ok (.ireturn, 1) := by decide +kernel
theorem d_Law_find_0 : decode b_Law_find 0 = .ok (.aload 4, 2) := by decide +kernel
theorem d_Law_find_2 : decode b_Law_find 2 = .ok (.iconst 0, 1) := by decide +kernel
theorem d_Law_find_3 : decode b_Law_find 3 = .ok (.aload_n 0, 1) := by decide +kernel
theorem d_Law_find_4 : decode b_Law_find 4 = .ok (.iload_n 1, 1) := by decide +kernel
theorem d_Law_find_5 : decode b_Law_find 5 = .ok (.iload_n 2, 1) := by decide +kernel
theorem d_Law_find_6 : decode b_Law_find 6 = .ok (.iload_n 3, 1) := by decide +kernel
theorem d_Law_find_7 : decode b_Law_find 7 = .ok (.invokevirtual 23, 3) := by decide +kernel
theorem d_Law_find_10 : decode b_Law_find 10 = .ok (.i2l, 1) := by decide +kernel
theorem d_Law_find_11 : decode b_Law_find 11 = .ok (.lastore, 1) := by decide +kernel
theorem d_Law_find_12 : decode b_Law_find 12 = .ok (.goto 7, 3) := by decide +kernel
theorem d_Law_find_15 : decode b_Law_find 15 = .ok (.astore 5, 2) := by decide +kernel
theorem d_Law_find_17 : decode b_Law_find 17 = .ok (.iconst 1, 1) := by decide +kernel
theorem d_Law_find_18 : decode b_Law_find 18 = .ok (.ireturn, 1) := by decide +kernel
theorem d_Law_find_19 : decode b_Law_find 19 = .ok (.iconst 0, 1) := by decide +kernel
theorem d_Law_find_20 : decode b_Law_find 20 = .ok (.ireturn, 1) := by decide +kernel
theorem d_Law_place_0 : decode b_Law_place 0 = .ok (.aload_n 3, 1) := by decide +kernel
theorem d_Law_place_1 : decode b_Law_place 1 = .ok (.iconst 0, 1) := by decide +kernel
theorem d_Law_place_2 : decode b_Law_place 2 = .ok (.aload_n 0, 1) := by decide +kernel
theorem d_Law_place_3 : decode b_Law_place 3 = .ok (.iload_n 1, 1) := by decide +kernel
theorem d_Law_place_4 : decode b_Law_place 4 = .ok (.iload_n 2, 1) := by decide +kernel
theorem d_Law_place_5 : decode b_Law_place 5 = .ok (.invokevirtual 26, 3) := by decide +kernel
theorem d_Law_place_8 : decode b_Law_place 8 = .ok (.i2l, 1) := by decide +kernel
theorem d_Law_place_9 : decode b_Law_place 9 = .ok (.lastore, 1) := by decide +kernel
theorem d_Law_place_10 : decode b_Law_place 10 = .ok (.goto 7, 3) := by decide +kernel
theorem d_Law_place_13 : decode b_Law_place 13 = .ok (.astore 4, 2) := by decide +kernel
theorem d_Law_place_15 : decode b_Law_place 15 = .ok (.iconst 1, 1) := by decide +kernel
theorem d_Law_place_16 : decode b_Law_place 16 = .ok (.ireturn, 1) := by decide +kernel
theorem d_Law_place_17 : decode b_Law_place 17 = .ok (.iconst 0, 1) := by decide +kernel
theorem d_Law_place_18 : decode b_Law_place 18 = .ok (.ireturn, 1) := by decide +kernel
theorem d_Law_modules_0 : decode b_Law_modules 0 = .ok (.aload 4, 2) := by decide +kernel
theorem d_Law_modules_2 : decode b_Law_modules 2 = .ok (.iconst 0, 1) := by decide +kernel
theorem d_Law_modules_3 : decode b_Law_modules 3 = .ok (.aload_n 0, 1) := by decide +kernel
theorem d_Law_modules_4 : decode b_Law_modules 4 = .ok (.iload_n 1, 1) := by decide +kernel
theorem d_Law_modules_5 : decode b_Law_modules 5 = .ok (.iload_n 2, 1) := by decide +kernel
theorem d_Law_modules_6 : decode b_Law_modules 6 = .ok (.iload_n 3, 1) := by decide +kernel
theorem d_Law_modules_7 : decode b_Law_modules 7 = .ok (.invokevirtual 30, 3) := by decide +kernel
theorem d_Law_modules_10 : decode b_Law_modules 10 = .ok (.lastore, 1) := by decide +kernel
theorem d_Law_modules_11 : decode b_Law_modules 11 = .ok (.goto 7, 3) := by decide +kernel
theorem d_Law_modules_14 : decode b_Law_modules 14 = .ok (.astore 5, 2) := by decide +kernel
theorem d_Law_modules_16 : decode b_Law_modules 16 = .ok (.iconst 1, 1) := by decide +kernel
theorem d_Law_modules_17 : decode b_Law_modules 17 = .ok (.ireturn, 1) := by decide +kernel
theorem d_Law_modules_18 : decode b_Law_modules 18 = .ok (.iconst 0, 1) := by decide +kernel
theorem d_Law_modules_19 : decode b_Law_modules 19 = .ok (.ireturn, 1) := by decide +kernel
