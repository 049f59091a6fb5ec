theorem d_PF_drawFixed_73 : decode b_PF_drawFixed 73 = .ok (.aload_n 0, 1) := by decide +kernel
theorem d_PF_drawFixed_74 : decode b_PF_drawFixed 74 = .ok (.aload_n 1, 1) := by decide +kernel
theorem d_PF_drawFixed_75 : decode b_PF_drawFixed 75 = .ok (.bipush 6, 2) := by decide +kernel
theorem d_PF_drawFixed_77 : decode b_PF_drawFixed 77 = .ok (.iload 4, 2) := by decide +kernel
theorem d_PF_drawFixed_79 : decode b_PF_drawFixed 79 = .ok (.iload 5, 2) := by decide +kernel
theorem d_PF_drawFixed_81 : decode b_PF_drawFixed 81 = .ok (.invokevirtual 171, 3) := by decide +kernel
theorem d_PF_drawFixed_84 : decode b_PF_drawFixed 84 = .ok (.iadd, 1) := by decide +kernel
theorem d_PF_drawFixed_85 : decode b_PF_drawFixed 85 = .ok (.iadd, 1) := by decide +kernel
theorem d_PF_drawFixed_86 : decode b_PF_drawFixed 86 = .ok (.istore_n 3, 1) := by decide +kernel
theorem d_PF_drawFixed_87 : decode b_PF_drawFixed 87 = .ok (.iinc 4 1, 3) := by decide +kernel
theorem d_PF_drawFixed_90 : decode b_PF_drawFixed 90 = .ok (.goto (-55), 3) := by decide +kernel
theorem d_PF_drawFixed_93 : decode b_PF_drawFixed 93 = .ok (.iload_n 3, 1) := by decide +kernel
theorem d_PF_drawFixed_94 : decode b_PF_drawFixed 94 = .ok (.aload_n 0, 1) := by decide +kernel
theorem d_PF_drawFixed_95 : decode b_PF_drawFixed 95 = .ok (.aload_n 1, 1) := by decide +kernel
theorem d_PF_drawFixed_96 : decode b_PF_drawFixed 96 = .ok (.bipush 8, 2) := by decide +kernel
theorem d_PF_drawFixed_98 : decode b_PF_drawFixed 98 = .ok (.aload_n 1, 1) := by decide +kernel
theorem d_PF_drawFixed_99 : decode b_PF_drawFixed 99 = .ok (.getfield 164, 3) := by decide +kernel
theorem d_PF_drawFixed_102 : decode b_PF_drawFixed 102 = .ok (.bipush 8, 2) := by decide +kernel
theorem d_PF_drawFixed_104 : decode b_PF_drawFixed 104 = .ok (.isub, 1) := by decide +kernel
theorem d_PF_drawFixed_105 : decode b_PF_drawFixed 105 = .ok (.iconst 1, 1) := by decide +kernel
theorem d_PF_drawFixed_106 : decode b_PF_drawFixed 106 = .ok (.invokevirtual 171, 3) := by decide +kernel
theorem d_PF_drawFixed_109 : decode b_PF_drawFixed 109 = .ok (.iadd, 1) := by decide +kernel
theorem d_PF_drawFixed_110 : decode b_PF_drawFixed 110 = .ok (.ireturn, 1) := by decide +kernel
theorem d_PF_drawCorner_0 : decode b_PF_drawCorner 0 = .ok (.iconst 0, 1) := by decide +kernel
theorem d_PF_drawCorner_1 : decode b_PF_drawCorner 1 = .ok (.istore 4, 2) := by decide +kernel
theorem d_PF_drawCorner_3 : decode b_PF_drawCorner 3 = .ok (.iload_n 3, 1) := by decide +kernel
theorem d_PF_drawCorner_4 : decode b_PF_drawCorner 4 = .ok (.iconst 4, 1) := by decide +kernel
theorem d_PF_drawCorner_5 : decode b_PF_drawCorner 5 = .ok (.isub, 1) := by decide +kernel
theorem d_PF_drawCorner_6 : decode b_PF_drawCorner 6 = .ok (.istore 5, 2) := by decide +kernel
theorem d_PF_drawCorner_8 : decode b_PF_drawCorner 8 = .ok (.iload 5, 2) := by decide +kernel
theorem d_PF_drawCorner_10 : decode b_PF_drawCorner 10 = .ok (.iload_n 3, 1) := by decide +kernel
theorem d_PF_drawCorner_11 : decode b_PF_drawCorner 11 = .ok (.iconst 4, 1) := by decide +kernel
theorem d_PF_drawCorner_12 : decode b_PF_drawCorner 12 = .ok (.iadd, 1) := by decide +kernel
theorem d_PF_drawCorner_13 : decode b_PF_drawCorner 13 = .ok (.if_icmp .gt 89, 3) := by decide +kernel
theorem d_PF_drawCorner_16 : decode b_PF_drawCorner 16 = .ok (.iload_n 2, 1) := by decide +kernel
theorem d_PF_drawCorner_17 : decode b_PF_drawCorner 17 = .ok (.iconst 4, 1) := by decide +kernel
theorem d_PF_drawCorner_18 : decode b_PF_drawCorner 18 = .ok (.isub, 1) := by decide +kernel
theorem d_PF_drawCorner_19 : decode b_PF_drawCorner 19 = .ok (.istore 6, 2) := by decide +kernel
theorem d_PF_drawCorner_21 : decode b_PF_drawCorner 21 = .ok (.iload 6, 2) := by decide +kernel
theorem d_PF_drawCorner_23 : decode b_PF_drawCorner 23 = .ok (.iload_n 2, 1) := by decide +kernel
theorem d_PF_drawCorner_24 : decode b_PF_drawCorner 24 = .ok (.iconst 4, 1) := by decide +kernel
theorem d_PF_drawCorner_25 : decode b_PF_drawCorner 25 = .ok (.iadd, 1) := by decide +kernel
theorem d_PF_drawCorner_26 : decode b_PF_drawCorner 26 = .ok (.if_icmp .gt 70, 3) := by decide +kernel
theorem d_PF_drawCorner_29 : decode b_PF_drawCorner 29 = .ok (.aload_n 1, 1) := by decide +kernel
theorem d_PF_drawCorner_30 : decode b_PF_drawCorner 30 = .ok (.iload 6, 2) := by decide +kernel
theorem d_PF_drawCorner_32 : decode b_PF_drawCorner 32 = .ok (.iload 5, 2) := by decide +kernel
theorem d_PF_drawCorner_34 : decode b_PF_drawCorner 34 = .ok (.invokevirtual 142, 3) := by decide +kernel
theorem d_PF_drawCorner_37 : decode b_PF_drawCorner 37 = .ok (.ifCond .eq 53, 3) := by decide +kernel
theorem d_PF_drawCorner_40 : decode b_PF_drawCorner 40 = .ok (.iload 6, 2) := by decide +kernel
theorem d_PF_drawCorner_42 : decode b_PF_drawCorner 42 = .ok (.iload_n 2, 1) := by decide +kernel
theorem d_PF_drawCorner_43 : decode b_PF_drawCorner 43 = .ok (.isub, 1) := by decide +kernel
theorem d_PF_drawCorner_44 : decode b_PF_drawCorner 44 = .ok (.invokestatic 175, 3) := by decide +kernel
theorem d_PF_drawCorner_47 : decode b_PF_drawCorner 47 = .ok (.iload 5, 2) := by decide +kernel
theorem d_PF_drawCorner_49 : decode b_PF_drawCorner 49 = .ok (.iload_n 3, 1) := by decide +kernel
theorem d_PF_drawCorner_50 : decode b_PF_drawCorner 50 = .ok (.isub, 1) := by decide +kernel
theorem d_PF_drawCorner_51 : decode b_PF_drawCorner 51 = .ok (.invokestatic 175, 3) := by decide +kernel
theorem d_PF_drawCorner_54 : decode b_PF_drawCorner 54 = .ok (.invokestatic 180, 3) := by decide +kernel
theorem d_PF_drawCorner_57 : decode b_PF_drawCorner 57 = .ok (.istore 7, 2) := by decide +kernel
theorem d_PF_drawCorner_59 : decode b_PF_drawCorner 59 = .ok (.iload 4, 2) := by decide +kernel
theorem d_PF_drawCorner_61 : decode b_PF_drawCorner 61 = .ok (.aload_n 0, 1) := by decide +kernel
theorem d_PF_drawCorner_62 : decode b_PF_drawCorner 62 = .ok (.aload_n 1, 1) := by decide +kernel
theorem d_PF_drawCorner_63 : decode b_PF_drawCorner 63 = .ok (.iload 6, 2) := by decide +kernel
theorem d_PF_drawCorner_65 : decode b_PF_drawCorner 65 = .ok (.iload 5, 2) := by decide +kernel
theorem d_PF_drawCorner_67 : decode b_PF_drawCorner 67 = .ok (.iload 7, 2) := by decide +kernel
theorem d_PF_drawCorner_69 : decode b_PF_drawCorner 69 = .ok (.iconst 2, 1) := by decide +kernel
theorem d_PF_drawCorner_70 : decode b_PF_drawCorner 70 = .ok (.if_icmp .eq 13, 3) := by decide +kernel
theorem d_PF_drawCorner_73 : decode b_PF_drawCorner 73 = .ok (.iload 7, 2) := by decide +kernel
theorem d_PF_drawCorner_75 : decode b_PF_drawCorner 75 = .ok (.iconst 4, 1) := by decide +kernel
theorem d_PF_drawCorner_76 : decode b_PF_drawCorner 76 = .ok (.if_icmp .eq 7, 3) := by decide +kernel
theorem d_PF_drawCorner_79 : decode b_PF_drawCorner 79 = .ok (.iconst 1, 1) := by decide +kernel
theorem d_PF_drawCorner_80 : decode b_PF_drawCorner 80 = .ok (.goto 4, 3) := by decide +kernel
theorem d_PF_drawCorner_83 : decode b_PF_drawCorner 83 = .ok (.iconst 0, 1) := by decide +kernel
theorem d_PF_drawCorner_84 : decode b_PF_drawCorner 84 = .ok (.invokevirtual 171, 3) := by decide +kernel
theorem d_PF_drawCorner_87 : decode b_PF_drawCorner 87 = .ok (.iadd, 1) := by decide +kernel
theorem d_PF_drawCorner_88 : decode b_PF_drawCorner 88 = .ok (.istore 4, 2) := by decide +kernel
theorem d_PF_drawCorner_90 : decode b_PF_drawCorner 90 = .ok (.iinc 6 1, 3) := by decide +kernel
theorem d_PF_drawCorner_93 : decode b_PF_drawCorner 93 = .ok (.goto (-72), 3) := by decide +kernel
theorem d_PF_drawCorner_96 : decode b_PF_drawCorner 96 = .ok (.iinc 5 1, 3) := by decide +kernel
theorem d_PF_drawCorner_99 : decode b_PF_drawCorner 99 = .ok (.goto (-91), 3) := by decide +kernel
theorem d_PF_drawCorner_102 : decode b_PF_drawCorner 102 = .ok (.iload 4, 2) := by decide +kernel
theorem d_PF_drawCorner_104 : decode b_PF_drawCorner 104 = .ok (.ireturn, 1) := by decide +kernel
theorem d_PF_drawModule_0 : decode b_PF_drawModule 0 = .ok (.aload_n 1, 1) := by decide +kernel
theorem d_PF_drawModule_1 : decode b_PF_drawModule 1 = .ok (.getfield 150, 3) := by decide +kernel
theorem d_PF_drawModule_4 : decode b_PF_drawModule 4 = .ok (.istore 5, 2) := by decide +kernel
theorem d_PF_drawModule_6 : decode b_PF_drawModule 6 = .ok (.aload_n 0, 1) := by decide +kernel
theorem d_PF_drawModule_7 : decode b_PF_drawModule 7 = .ok (.getfield 20, 3) := by decide +kernel
theorem d_PF_drawModule_10 : decode b_PF_drawModule 10 = .ok (.aload_n 1, 1) := by decide +kernel
theorem d_PF_drawModule_11 : decode b_PF_drawModule 11 = .ok (.iload_n 2, 1) := by decide +kernel
theorem d_PF_drawModule_12 : decode b_PF_drawModule 12 = .ok (.iload_n 3, 1) := by decide +kernel
theorem d_PF_drawModule_13 : decode b_PF_drawModule 13 = .ok (.invokevirtual 153, 3) := by decide +kernel
theorem d_PF_drawModule_16 : decode b_PF_drawModule 16 = .ok (.aload_n 1, 1) := by decide +kernel
theorem d_PF_drawModule_17 : decode b_PF_drawModule 17 = .ok (.iload_n 2, 1) := by decide +kernel
theorem d_PF_drawModule_18 : decode b_PF_drawModule 18 = .ok (.iload_n 3, 1) := by decide +kernel
theorem d_PF_drawModule_19 : decode b_PF_drawModule 19 = .ok (.invokevirtual 157, 3) := by decide +kernel
theorem d_PF_drawModule_22 : decode b_PF_drawModule 22 = .ok (.iload 5, 2) := by decide +kernel
theorem d_PF_drawModule_24 : decode b_PF_drawModule 24 = .ok (.iload 5, 2) := by decide +kernel
theorem d_PF_drawModule_26 : decode b_PF_drawModule 26 = .ok (.iload 4, 2) := by decide +kernel
theorem d_PF_drawModule_28 : decode b_PF_drawModule 28 = .ok (.invokevirtual 58, 3) := by decide +kernel
theorem d_PF_drawModule_31 : decode b_PF_drawModule 31 = .ok (.ireturn, 1) := by decide +kernel
