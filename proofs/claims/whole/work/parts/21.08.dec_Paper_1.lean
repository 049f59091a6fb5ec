theorem d_Paper_addUpRow_29 : decode b_Paper_addUpRow 29 = .ok (.iload 4, 2) := by decide +kernel
theorem d_Paper_addUpRow_31 : decode b_Paper_addUpRow 31 = .ok (.aload_n 0, 1) := by decide +kernel
theorem d_Paper_addUpRow_32 : decode b_Paper_addUpRow 32 = .ok (.getfield 18, 3) := by decide +kernel
theorem d_Paper_addUpRow_35 : decode b_Paper_addUpRow 35 = .ok (.iload_n 1, 1) := by decide +kernel
theorem d_Paper_addUpRow_36 : decode b_Paper_addUpRow 36 = .ok (.bipush 8, 2) := by decide +kernel
theorem d_Paper_addUpRow_38 : decode b_Paper_addUpRow 38 = .ok (.imul, 1) := by decide +kernel
theorem d_Paper_addUpRow_39 : decode b_Paper_addUpRow 39 = .ok (.iload 5, 2) := by decide +kernel
theorem d_Paper_addUpRow_41 : decode b_Paper_addUpRow 41 = .ok (.bipush 6, 2) := by decide +kernel
theorem d_Paper_addUpRow_43 : decode b_Paper_addUpRow 43 = .ok (.ishr, 1) := by decide +kernel
theorem d_Paper_addUpRow_44 : decode b_Paper_addUpRow 44 = .ok (.iadd, 1) := by decide +kernel
theorem d_Paper_addUpRow_45 : decode b_Paper_addUpRow 45 = .ok (.laload, 1) := by decide +kernel
theorem d_Paper_addUpRow_46 : decode b_Paper_addUpRow 46 = .ok (.iload 5, 2) := by decide +kernel
theorem d_Paper_addUpRow_48 : decode b_Paper_addUpRow 48 = .ok (.bipush 63, 2) := by decide +kernel
theorem d_Paper_addUpRow_50 : decode b_Paper_addUpRow 50 = .ok (.iand, 1) := by decide +kernel
theorem d_Paper_addUpRow_51 : decode b_Paper_addUpRow 51 = .ok (.lushr, 1) := by decide +kernel
theorem d_Paper_addUpRow_52 : decode b_Paper_addUpRow 52 = .ok (.l2i, 1) := by decide +kernel
theorem d_Paper_addUpRow_53 : decode b_Paper_addUpRow 53 = .ok (.iconst 1, 1) := by decide +kernel
theorem d_Paper_addUpRow_54 : decode b_Paper_addUpRow 54 = .ok (.iand, 1) := by decide +kernel
theorem d_Paper_addUpRow_55 : decode b_Paper_addUpRow 55 = .ok (.iadd, 1) := by decide +kernel
theorem d_Paper_addUpRow_56 : decode b_Paper_addUpRow 56 = .ok (.istore 4, 2) := by decide +kernel
theorem d_Paper_addUpRow_58 : decode b_Paper_addUpRow 58 = .ok (.aload_n 0, 1) := by decide +kernel
theorem d_Paper_addUpRow_59 : decode b_Paper_addUpRow 59 = .ok (.getfield 23, 3) := by decide +kernel
theorem d_Paper_addUpRow_62 : decode b_Paper_addUpRow 62 = .ok (.iload_n 3, 1) := by decide +kernel
theorem d_Paper_addUpRow_63 : decode b_Paper_addUpRow 63 = .ok (.iload 5, 2) := by decide +kernel
theorem d_Paper_addUpRow_65 : decode b_Paper_addUpRow 65 = .ok (.iadd, 1) := by decide +kernel
theorem d_Paper_addUpRow_66 : decode b_Paper_addUpRow 66 = .ok (.aload_n 0, 1) := by decide +kernel
theorem d_Paper_addUpRow_67 : decode b_Paper_addUpRow 67 = .ok (.getfield 23, 3) := by decide +kernel
theorem d_Paper_addUpRow_70 : decode b_Paper_addUpRow 70 = .ok (.iload_n 2, 1) := by decide +kernel
theorem d_Paper_addUpRow_71 : decode b_Paper_addUpRow 71 = .ok (.iload 5, 2) := by decide +kernel
theorem d_Paper_addUpRow_73 : decode b_Paper_addUpRow 73 = .ok (.iadd, 1) := by decide +kernel
theorem d_Paper_addUpRow_74 : decode b_Paper_addUpRow 74 = .ok (.iaload, 1) := by decide +kernel
theorem d_Paper_addUpRow_75 : decode b_Paper_addUpRow 75 = .ok (.iload 4, 2) := by decide +kernel
theorem d_Paper_addUpRow_77 : decode b_Paper_addUpRow 77 = .ok (.iadd, 1) := by decide +kernel
theorem d_Paper_addUpRow_78 : decode b_Paper_addUpRow 78 = .ok (.iastore, 1) := by decide +kernel
theorem d_Paper_addUpRow_79 : decode b_Paper_addUpRow 79 = .ok (.iinc 5 1, 3) := by decide +kernel
theorem d_Paper_addUpRow_82 : decode b_Paper_addUpRow 82 = .ok (.goto (-62), 3) := by decide +kernel
theorem d_Paper_addUpRow_85 : decode b_Paper_addUpRow 85 = .ok (.return_, 1) := by decide +kernel
theorem d_Paper_countSummed_0 : decode b_Paper_countSummed 0 = .ok (.iload_n 3, 1) := by decide +kernel
theorem d_Paper_countSummed_1 : decode b_Paper_countSummed 1 = .ok (.ifCond .le 37, 3) := by decide +kernel
theorem d_Paper_countSummed_4 : decode b_Paper_countSummed 4 = .ok (.iload 4, 2) := by decide +kernel
theorem d_Paper_countSummed_6 : decode b_Paper_countSummed 6 = .ok (.ifCond .le 32, 3) := by decide +kernel
theorem d_Paper_countSummed_9 : decode b_Paper_countSummed 9 = .ok (.iload_n 1, 1) := by decide +kernel
theorem d_Paper_countSummed_10 : decode b_Paper_countSummed 10 = .ok (.ifCond .lt 28, 3) := by decide +kernel
theorem d_Paper_countSummed_13 : decode b_Paper_countSummed 13 = .ok (.iload_n 2, 1) := by decide +kernel
theorem d_Paper_countSummed_14 : decode b_Paper_countSummed 14 = .ok (.ifCond .lt 24, 3) := by decide +kernel
theorem d_Paper_countSummed_17 : decode b_Paper_countSummed 17 = .ok (.iload_n 1, 1) := by decide +kernel
theorem d_Paper_countSummed_18 : decode b_Paper_countSummed 18 = .ok (.aload_n 0, 1) := by decide +kernel
theorem d_Paper_countSummed_19 : decode b_Paper_countSummed 19 = .ok (.getfield 9, 3) := by decide +kernel
theorem d_Paper_countSummed_22 : decode b_Paper_countSummed 22 = .ok (.iload_n 3, 1) := by decide +kernel
theorem d_Paper_countSummed_23 : decode b_Paper_countSummed 23 = .ok (.isub, 1) := by decide +kernel
theorem d_Paper_countSummed_24 : decode b_Paper_countSummed 24 = .ok (.if_icmp .gt 14, 3) := by decide +kernel
theorem d_Paper_countSummed_27 : decode b_Paper_countSummed 27 = .ok (.iload_n 2, 1) := by decide +kernel
theorem d_Paper_countSummed_28 : decode b_Paper_countSummed 28 = .ok (.aload_n 0, 1) := by decide +kernel
theorem d_Paper_countSummed_29 : decode b_Paper_countSummed 29 = .ok (.getfield 15, 3) := by decide +kernel
theorem d_Paper_countSummed_32 : decode b_Paper_countSummed 32 = .ok (.iload 4, 2) := by decide +kernel
theorem d_Paper_countSummed_34 : decode b_Paper_countSummed 34 = .ok (.isub, 1) := by decide +kernel
theorem d_Paper_countSummed_35 : decode b_Paper_countSummed 35 = .ok (.if_icmp .le 5, 3) := by decide +kernel
theorem d_Paper_countSummed_38 : decode b_Paper_countSummed 38 = .ok (.iconst 0, 1) := by decide +kernel
theorem d_Paper_countSummed_39 : decode b_Paper_countSummed 39 = .ok (.ireturn, 1) := by decide +kernel
theorem d_Paper_countSummed_40 : decode b_Paper_countSummed 40 = .ok (.iload_n 2, 1) := by decide +kernel
theorem d_Paper_countSummed_41 : decode b_Paper_countSummed 41 = .ok (.sipush 513, 3) := by decide +kernel
theorem d_Paper_countSummed_44 : decode b_Paper_countSummed 44 = .ok (.imul, 1) := by decide +kernel
theorem d_Paper_countSummed_45 : decode b_Paper_countSummed 45 = .ok (.iload_n 1, 1) := by decide +kernel
theorem d_Paper_countSummed_46 : decode b_Paper_countSummed 46 = .ok (.iadd, 1) := by decide +kernel
theorem d_Paper_countSummed_47 : decode b_Paper_countSummed 47 = .ok (.istore 5, 2) := by decide +kernel
theorem d_Paper_countSummed_49 : decode b_Paper_countSummed 49 = .ok (.iload 5, 2) := by decide +kernel
theorem d_Paper_countSummed_51 : decode b_Paper_countSummed 51 = .ok (.iload 4, 2) := by decide +kernel
theorem d_Paper_countSummed_53 : decode b_Paper_countSummed 53 = .ok (.sipush 513, 3) := by decide +kernel
theorem d_Paper_countSummed_56 : decode b_Paper_countSummed 56 = .ok (.imul, 1) := by decide +kernel
theorem d_Paper_countSummed_57 : decode b_Paper_countSummed 57 = .ok (.iadd, 1) := by decide +kernel
theorem d_Paper_countSummed_58 : decode b_Paper_countSummed 58 = .ok (.istore 6, 2) := by decide +kernel
theorem d_Paper_countSummed_60 : decode b_Paper_countSummed 60 = .ok (.aload_n 0, 1) := by decide +kernel
theorem d_Paper_countSummed_61 : decode b_Paper_countSummed 61 = .ok (.getfield 23, 3) := by decide +kernel
theorem d_Paper_countSummed_64 : decode b_Paper_countSummed 64 = .ok (.iload 6, 2) := by decide +kernel
theorem d_Paper_countSummed_66 : decode b_Paper_countSummed 66 = .ok (.iload_n 3, 1) := by decide +kernel
theorem d_Paper_countSummed_67 : decode b_Paper_countSummed 67 = .ok (.iadd, 1) := by decide +kernel
theorem d_Paper_countSummed_68 : decode b_Paper_countSummed 68 = .ok (.iaload, 1) := by decide +kernel
theorem d_Paper_countSummed_69 : decode b_Paper_countSummed 69 = .ok (.aload_n 0, 1) := by decide +kernel
theorem d_Paper_countSummed_70 : decode b_Paper_countSummed 70 = .ok (.getfield 23, 3) := by decide +kernel
theorem d_Paper_countSummed_73 : decode b_Paper_countSummed 73 = .ok (.iload 6, 2) := by decide +kernel
theorem d_Paper_countSummed_75 : decode b_Paper_countSummed 75 = .ok (.iaload, 1) := by decide +kernel
theorem d_Paper_countSummed_76 : decode b_Paper_countSummed 76 = .ok (.isub, 1) := by decide +kernel
theorem d_Paper_countSummed_77 : decode b_Paper_countSummed 77 = .ok (.aload_n 0, 1) := by decide +kernel
theorem d_Paper_countSummed_78 : decode b_Paper_countSummed 78 = .ok (.getfield 23, 3) := by decide +kernel
theorem d_Paper_countSummed_81 : decode b_Paper_countSummed 81 = .ok (.iload 5, 2) := by decide +kernel
theorem d_Paper_countSummed_83 : decode b_Paper_countSummed 83 = .ok (.iload_n 3, 1) := by decide +kernel
theorem d_Paper_countSummed_84 : decode b_Paper_countSummed 84 = .ok (.iadd, 1) := by decide +kernel
theorem d_Paper_countSummed_85 : decode b_Paper_countSummed 85 = .ok (.iaload, 1) := by decide +kernel
theorem d_Paper_countSummed_86 : decode b_Paper_countSummed 86 = .ok (.isub, 1) := by decide +kernel
theorem d_Paper_countSummed_87 : decode b_Paper_countSummed 87 = .ok (.aload_n 0, 1) := by decide +kernel
theorem d_Paper_countSummed_88 : decode b_Paper_countSummed 88 = .ok (.getfield 23, 3) := by decide +kernel
theorem d_Paper_countSummed_91 : decode b_Paper_countSummed 91 = .ok (.iload 5, 2) := by decide +kernel
theorem d_Paper_countSummed_93 : decode b_Paper_countSummed 93 = .ok (.iaload, 1) := by decide +kernel
theorem d_Paper_countSummed_94 : decode b_Paper_countSummed 94 = .ok (.iadd, 1) := by decide +kernel
theorem d_Paper_countSummed_95 : decode b_Paper_countSummed 95 = .ok (.ireturn, 1) := by decide +kernel
