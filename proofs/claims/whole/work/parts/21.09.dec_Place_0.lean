theorem d_Place_init_0 : decode b_Place_init 0 = .ok (.aload_n 0, 1) := by decide +kernel
theorem d_Place_init_1 : decode b_Place_init 1 = .ok (.invokespecial 3, 3) := by decide +kernel
theorem d_Place_init_4 : decode b_Place_init 4 = .ok (.aload_n 0, 1) := by decide +kernel
theorem d_Place_init_5 : decode b_Place_init 5 = .ok (.iload_n 1, 1) := by decide +kernel
theorem d_Place_init_6 : decode b_Place_init 6 = .ok (.invokestatic 9, 3) := by decide +kernel
theorem d_Place_init_9 : decode b_Place_init 9 = .ok (.putfield 15, 3) := by decide +kernel
theorem d_Place_init_12 : decode b_Place_init 12 = .ok (.aload_n 0, 1) := by decide +kernel
theorem d_Place_init_13 : decode b_Place_init 13 = .ok (.iload_n 1, 1) := by decide +kernel
theorem d_Place_init_14 : decode b_Place_init 14 = .ok (.invokestatic 19, 3) := by decide +kernel
theorem d_Place_init_17 : decode b_Place_init 17 = .ok (.putfield 22, 3) := by decide +kernel
theorem d_Place_init_20 : decode b_Place_init 20 = .ok (.aload_n 0, 1) := by decide +kernel
theorem d_Place_init_21 : decode b_Place_init 21 = .ok (.iload_n 1, 1) := by decide +kernel
theorem d_Place_init_22 : decode b_Place_init 22 = .ok (.invokestatic 25, 3) := by decide +kernel
theorem d_Place_init_25 : decode b_Place_init 25 = .ok (.putfield 28, 3) := by decide +kernel
theorem d_Place_init_28 : decode b_Place_init 28 = .ok (.aload_n 0, 1) := by decide +kernel
theorem d_Place_init_29 : decode b_Place_init 29 = .ok (.iload_n 1, 1) := by decide +kernel
theorem d_Place_init_30 : decode b_Place_init 30 = .ok (.invokestatic 31, 3) := by decide +kernel
theorem d_Place_init_33 : decode b_Place_init 33 = .ok (.invokestatic 34, 3) := by decide +kernel
theorem d_Place_init_36 : decode b_Place_init 36 = .ok (.putfield 37, 3) := by decide +kernel
theorem d_Place_init_39 : decode b_Place_init 39 = .ok (.aload_n 0, 1) := by decide +kernel
theorem d_Place_init_40 : decode b_Place_init 40 = .ok (.iload_n 1, 1) := by decide +kernel
theorem d_Place_init_41 : decode b_Place_init 41 = .ok (.invokestatic 40, 3) := by decide +kernel
theorem d_Place_init_44 : decode b_Place_init 44 = .ok (.putfield 43, 3) := by decide +kernel
theorem d_Place_init_47 : decode b_Place_init 47 = .ok (.return_, 1) := by decide +kernel
theorem d_Place_keyOf_0 : decode b_Place_keyOf 0 = .ok (.iload_n 1, 1) := by decide +kernel
theorem d_Place_keyOf_1 : decode b_Place_keyOf 1 = .ok (.bipush 22, 2) := by decide +kernel
theorem d_Place_keyOf_3 : decode b_Place_keyOf 3 = .ok (.ishl, 1) := by decide +kernel
theorem d_Place_keyOf_4 : decode b_Place_keyOf 4 = .ok (.iload_n 0, 1) := by decide +kernel
theorem d_Place_keyOf_5 : decode b_Place_keyOf 5 = .ok (.bipush 13, 2) := by decide +kernel
theorem d_Place_keyOf_7 : decode b_Place_keyOf 7 = .ok (.ishl, 1) := by decide +kernel
theorem d_Place_keyOf_8 : decode b_Place_keyOf 8 = .ok (.ior, 1) := by decide +kernel
theorem d_Place_keyOf_9 : decode b_Place_keyOf 9 = .ok (.iload_n 2, 1) := by decide +kernel
theorem d_Place_keyOf_10 : decode b_Place_keyOf 10 = .ok (.ior, 1) := by decide +kernel
theorem d_Place_keyOf_11 : decode b_Place_keyOf 11 = .ok (.ireturn, 1) := by decide +kernel
theorem d_Place_leftOf_0 : decode b_Place_leftOf 0 = .ok (.iload_n 0, 1) := by decide +kernel
theorem d_Place_leftOf_1 : decode b_Place_leftOf 1 = .ok (.bipush 13, 2) := by decide +kernel
theorem d_Place_leftOf_3 : decode b_Place_leftOf 3 = .ok (.ishr, 1) := by decide +kernel
theorem d_Place_leftOf_4 : decode b_Place_leftOf 4 = .ok (.sipush 511, 3) := by decide +kernel
theorem d_Place_leftOf_7 : decode b_Place_leftOf 7 = .ok (.iand, 1) := by decide +kernel
theorem d_Place_leftOf_8 : decode b_Place_leftOf 8 = .ok (.ireturn, 1) := by decide +kernel
theorem d_Place_topOf_0 : decode b_Place_topOf 0 = .ok (.iload_n 0, 1) := by decide +kernel
theorem d_Place_topOf_1 : decode b_Place_topOf 1 = .ok (.bipush 22, 2) := by decide +kernel
theorem d_Place_topOf_3 : decode b_Place_topOf 3 = .ok (.ishr, 1) := by decide +kernel
theorem d_Place_topOf_4 : decode b_Place_topOf 4 = .ok (.sipush 511, 3) := by decide +kernel
theorem d_Place_topOf_7 : decode b_Place_topOf 7 = .ok (.iand, 1) := by decide +kernel
theorem d_Place_topOf_8 : decode b_Place_topOf 8 = .ok (.ireturn, 1) := by decide +kernel
theorem d_Place_moduleOf_0 : decode b_Place_moduleOf 0 = .ok (.iload_n 0, 1) := by decide +kernel
theorem d_Place_moduleOf_1 : decode b_Place_moduleOf 1 = .ok (.bipush 8, 2) := by decide +kernel
theorem d_Place_moduleOf_3 : decode b_Place_moduleOf 3 = .ok (.ishr, 1) := by decide +kernel
theorem d_Place_moduleOf_4 : decode b_Place_moduleOf 4 = .ok (.bipush 31, 2) := by decide +kernel
theorem d_Place_moduleOf_6 : decode b_Place_moduleOf 6 = .ok (.iand, 1) := by decide +kernel
theorem d_Place_moduleOf_7 : decode b_Place_moduleOf 7 = .ok (.ireturn, 1) := by decide +kernel
theorem d_Place_versionOf_0 : decode b_Place_versionOf 0 = .ok (.iload_n 0, 1) := by decide +kernel
theorem d_Place_versionOf_1 : decode b_Place_versionOf 1 = .ok (.iconst 2, 1) := by decide +kernel
theorem d_Place_versionOf_2 : decode b_Place_versionOf 2 = .ok (.ishr, 1) := by decide +kernel
theorem d_Place_versionOf_3 : decode b_Place_versionOf 3 = .ok (.bipush 63, 2) := by decide +kernel
theorem d_Place_versionOf_5 : decode b_Place_versionOf 5 = .ok (.iand, 1) := by decide +kernel
theorem d_Place_versionOf_6 : decode b_Place_versionOf 6 = .ok (.ireturn, 1) := by decide +kernel
theorem d_Place_quarterOf_0 : decode b_Place_quarterOf 0 = .ok (.iload_n 0, 1) := by decide +kernel
theorem d_Place_quarterOf_1 : decode b_Place_quarterOf 1 = .ok (.iconst 3, 1) := by decide +kernel
theorem d_Place_quarterOf_2 : decode b_Place_quarterOf 2 = .ok (.iand, 1) := by decide +kernel
theorem d_Place_quarterOf_3 : decode b_Place_quarterOf 3 = .ok (.ireturn, 1) := by decide +kernel
theorem d_Place_sizeOf_0 : decode b_Place_sizeOf 0 = .ok (.bipush 17, 2) := by decide +kernel
theorem d_Place_sizeOf_2 : decode b_Place_sizeOf 2 = .ok (.iconst 4, 1) := by decide +kernel
theorem d_Place_sizeOf_3 : decode b_Place_sizeOf 3 = .ok (.iload_n 0, 1) := by decide +kernel
theorem d_Place_sizeOf_4 : decode b_Place_sizeOf 4 = .ok (.imul, 1) := by decide +kernel
theorem d_Place_sizeOf_5 : decode b_Place_sizeOf 5 = .ok (.iadd, 1) := by decide +kernel
theorem d_Place_sizeOf_6 : decode b_Place_sizeOf 6 = .ok (.ireturn, 1) := by decide +kernel
theorem d_Place_haveCommonDot_0 : decode b_Place_haveCommonDot 0 = .ok (.iload_n 0, 1) := by decide +kernel
theorem d_Place_haveCommonDot_1 : decode b_Place_haveCommonDot 1 = .ok (.invokestatic 25, 3) := by decide +kernel
theorem d_Place_haveCommonDot_4 : decode b_Place_haveCommonDot 4 = .ok (.iload_n 0, 1) := by decide +kernel
theorem d_Place_haveCommonDot_5 : decode b_Place_haveCommonDot 5 = .ok (.invokestatic 31, 3) := by decide +kernel
theorem d_Place_haveCommonDot_8 : decode b_Place_haveCommonDot 8 = .ok (.invokestatic 34, 3) := by decide +kernel
theorem d_Place_haveCommonDot_11 : decode b_Place_haveCommonDot 11 = .ok (.imul, 1) := by decide +kernel
theorem d_Place_haveCommonDot_12 : decode b_Place_haveCommonDot 12 = .ok (.istore_n 2, 1) := by decide +kernel
theorem d_Place_haveCommonDot_13 : decode b_Place_haveCommonDot 13 = .ok (.iload_n 1, 1) := by decide +kernel
theorem d_Place_haveCommonDot_14 : decode b_Place_haveCommonDot 14 = .ok (.invokestatic 25, 3) := by decide +kernel
theorem d_Place_haveCommonDot_17 : decode b_Place_haveCommonDot 17 = .ok (.iload_n 1, 1) := by decide +kernel
theorem d_Place_haveCommonDot_18 : decode b_Place_haveCommonDot 18 = .ok (.invokestatic 31, 3) := by decide +kernel
theorem d_Place_haveCommonDot_21 : decode b_Place_haveCommonDot 21 = .ok (.invokestatic 34, 3) := by decide +kernel
theorem d_Place_haveCommonDot_24 : decode b_Place_haveCommonDot 24 = .ok (.imul, 1) := by decide +kernel
theorem d_Place_haveCommonDot_25 : decode b_Place_haveCommonDot 25 = .ok (.istore_n 3, 1) := by decide +kernel
theorem d_Place_haveCommonDot_26 : decode b_Place_haveCommonDot 26 = .ok (.iload_n 0, 1) := by decide +kernel
theorem d_Place_haveCommonDot_27 : decode b_Place_haveCommonDot 27 = .ok (.invokestatic 9, 3) := by decide +kernel
theorem d_Place_haveCommonDot_30 : decode b_Place_haveCommonDot 30 = .ok (.iload_n 1, 1) := by decide +kernel
theorem d_Place_haveCommonDot_31 : decode b_Place_haveCommonDot 31 = .ok (.invokestatic 9, 3) := by decide +kernel
theorem d_Place_haveCommonDot_34 : decode b_Place_haveCommonDot 34 = .ok (.iload_n 3, 1) := by decide +kernel
theorem d_Place_haveCommonDot_35 : decode b_Place_haveCommonDot 35 = .ok (.iadd, 1) := by decide +kernel
theorem d_Place_haveCommonDot_36 : decode b_Place_haveCommonDot 36 = .ok (.if_icmp .ge 46, 3) := by decide +kernel
theorem d_Place_haveCommonDot_39 : decode b_Place_haveCommonDot 39 = .ok (.iload_n 1, 1) := by decide +kernel
theorem d_Place_haveCommonDot_40 : decode b_Place_haveCommonDot 40 = .ok (.invokestatic 9, 3) := by decide +kernel
theorem d_Place_haveCommonDot_43 : decode b_Place_haveCommonDot 43 = .ok (.iload_n 0, 1) := by decide +kernel
theorem d_Place_haveCommonDot_44 : decode b_Place_haveCommonDot 44 = .ok (.invokestatic 9, 3) := by decide +kernel
theorem d_Place_haveCommonDot_47 : decode b_Place_haveCommonDot 47 = .ok (.iload_n 2, 1) := by decide +kernel
theorem d_Place_haveCommonDot_48 : decode b_Place_haveCommonDot 48 = .ok (.iadd, 1) := by decide +kernel
theorem d_Place_haveCommonDot_49 : decode b_Place_haveCommonDot 49 = .ok (.if_icmp .ge 33, 3) := by decide +kernel
theorem d_Place_haveCommonDot_52 : decode b_Place_haveCommonDot 52 = .ok (.iload_n 0, 1) := by decide +kernel
theorem d_Place_haveCommonDot_53 : decode b_Place_haveCommonDot 53 = .ok (.invokestatic 19, 3) := by decide +kernel
theorem d_Place_haveCommonDot_56 : decode b_Place_haveCommonDot 56 = .ok (.iload_n 1, 1) := by decide +kernel
theorem d_Place_haveCommonDot_57 : decode b_Place_haveCommonDot 57 = .ok (.invokestatic 19, 3) := by decide +kernel
theorem d_Place_haveCommonDot_60 : decode b_Place_haveCommonDot 60 = .ok (.iload_n 3, 1) := by decide +kernel
theorem d_Place_haveCommonDot_61 : decode b_Place_haveCommonDot 61 = .ok (.iadd, 1) := by decide +kernel
theorem d_Place_haveCommonDot_62 : decode b_Place_haveCommonDot 62 = .ok (.if_icmp .ge 20, 3) := by decide +kernel
theorem d_Place_haveCommonDot_65 : decode b_Place_haveCommonDot 65 = .ok (.iload_n 1, 1) := by decide +kernel
theorem d_Place_haveCommonDot_66 : decode b_Place_haveCommonDot 66 = .ok (.invokestatic 19, 3) := by decide +kernel
theorem d_Place_haveCommonDot_69 : decode b_Place_haveCommonDot 69 = .ok (.iload_n 0, 1) := by decide +kernel
theorem d_Place_haveCommonDot_70 : decode b_Place_haveCommonDot 70 = .ok (.invokestatic 19, 3) := by decide +kernel
theorem d_Place_haveCommonDot_73 : decode b_Place_haveCommonDot 73 = .ok (.iload_n 2, 1) := by decide +kernel
theorem d_Place_haveCommonDot_74 : decode b_Place_haveCommonDot 74 = .ok (.iadd, 1) := by decide +kernel
theorem d_Place_haveCommonDot_75 : decode b_Place_haveCommonDot 75 = .ok (.if_icmp .ge 7, 3) := by decide +kernel
theorem d_Place_haveCommonDot_78 : decode b_Place_haveCommonDot 78 = .ok (.iconst 1, 1) := by decide +kernel
theorem d_Place_haveCommonDot_79 : decode b_Place_haveCommonDot 79 = .ok (.goto 4, 3) := by decide +kernel
theorem d_Place_haveCommonDot_82 : decode b_Place_haveCommonDot 82 = .ok (.iconst 0, 1) := by decide +kernel
theorem d_Place_haveCommonDot_83 : decode b_Place_haveCommonDot 83 = .ok (.ireturn, 1) := by decide +kernel
theorem d_Place_hasModule_0 : decode b_Place_hasModule 0 = .ok (.iload_n 1, 1) := by decide +kernel
theorem d_Place_hasModule_1 : decode b_Place_hasModule 1 = .ok (.ifCond .lt 27, 3) := by decide +kernel
theorem d_Place_hasModule_4 : decode b_Place_hasModule 4 = .ok (.iload_n 1, 1) := by decide +kernel
theorem d_Place_hasModule_5 : decode b_Place_hasModule 5 = .ok (.aload_n 0, 1) := by decide +kernel
theorem d_Place_hasModule_6 : decode b_Place_hasModule 6 = .ok (.getfield 37, 3) := by decide +kernel
theorem d_Place_hasModule_9 : decode b_Place_hasModule 9 = .ok (.if_icmp .ge 19, 3) := by decide +kernel
theorem d_Place_hasModule_12 : decode b_Place_hasModule 12 = .ok (.iload_n 2, 1) := by decide +kernel
theorem d_Place_hasModule_13 : decode b_Place_hasModule 13 = .ok (.ifCond .lt 15, 3) := by decide +kernel
theorem d_Place_hasModule_16 : decode b_Place_hasModule 16 = .ok (.iload_n 2, 1) := by decide +kernel
theorem d_Place_hasModule_17 : decode b_Place_hasModule 17 = .ok (.aload_n 0, 1) := by decide +kernel
theorem d_Place_hasModule_18 : decode b_Place_hasModule 18 = .ok (.getfield 37, 3) := by decide +kernel
theorem d_Place_hasModule_21 : decode b_Place_hasModule 21 = .ok (.if_icmp .ge 7, 3) := by decide +kernel
theorem d_Place_hasModule_24 : decode b_Place_hasModule 24 = .ok (.iconst 1, 1) := by decide +kernel
theorem d_Place_hasModule_25 : decode b_Place_hasModule 25 = .ok (.goto 4, 3) := by decide +kernel
theorem d_Place_hasModule_28 : decode b_Place_hasModule 28 = .ok (.iconst 0, 1) := by decide +kernel
theorem d_Place_hasModule_29 : decode b_Place_hasModule 29 = .ok (.ireturn, 1) := by decide +kernel
theorem d_Place_blockLeft_0 : decode b_Place_blockLeft 0 = .ok (.aload_n 0, 1) := by decide +kernel
theorem d_Place_blockLeft_1 : decode b_Place_blockLeft 1 = .ok (.getfield 37, 3) := by decide +kernel
theorem d_Place_blockLeft_4 : decode b_Place_blockLeft 4 = .ok (.iconst 1, 1) := by decide +kernel
theorem d_Place_blockLeft_5 : decode b_Place_blockLeft 5 = .ok (.isub, 1) := by decide +kernel
theorem d_Place_blockLeft_6 : decode b_Place_blockLeft 6 = .ok (.istore_n 3, 1) := by decide +kernel
theorem d_Place_blockLeft_7 : decode b_Place_blockLeft 7 = .ok (.aload_n 0, 1) := by decide +kernel
theorem d_Place_blockLeft_8 : decode b_Place_blockLeft 8 = .ok (.getfield 43, 3) := by decide +kernel
theorem d_Place_blockLeft_11 : decode b_Place_blockLeft 11 = .ok (.ifCond .ne 7, 3) := by decide +kernel
theorem d_Place_blockLeft_14 : decode b_Place_blockLeft 14 = .ok (.iload_n 1, 1) := by decide +kernel
theorem d_Place_blockLeft_15 : decode b_Place_blockLeft 15 = .ok (.goto 32, 3) := by decide +kernel
theorem d_Place_blockLeft_18 : decode b_Place_blockLeft 18 = .ok (.aload_n 0, 1) := by decide +kernel
theorem d_Place_blockLeft_19 : decode b_Place_blockLeft 19 = .ok (.getfield 43, 3) := by decide +kernel
theorem d_Place_blockLeft_22 : decode b_Place_blockLeft 22 = .ok (.iconst 1, 1) := by decide +kernel
theorem d_Place_blockLeft_23 : decode b_Place_blockLeft 23 = .ok (.if_icmp .ne 9, 3) := by decide +kernel
theorem d_Place_blockLeft_26 : decode b_Place_blockLeft 26 = .ok (.iload_n 3, 1) := by decide +kernel
theorem d_Place_blockLeft_27 : decode b_Place_blockLeft 27 = .ok (.iload_n 2, 1) := by decide +kernel
theorem d_Place_blockLeft_28 : decode b_Place_blockLeft 28 = .ok (.isub, 1) := by decide +kernel
theorem d_Place_blockLeft_29 : decode b_Place_blockLeft 29 = .ok (.goto 18, 3) := by decide +kernel
theorem d_Place_blockLeft_32 : decode b_Place_blockLeft 32 = .ok (.aload_n 0, 1) := by decide +kernel
theorem d_Place_blockLeft_33 : decode b_Place_blockLeft 33 = .ok (.getfield 43, 3) := by decide +kernel
theorem d_Place_blockLeft_36 : decode b_Place_blockLeft 36 = .ok (.iconst 2, 1) := by decide +kernel
theorem d_Place_blockLeft_37 : decode b_Place_blockLeft 37 = .ok (.if_icmp .ne 9, 3) := by decide +kernel
theorem d_Place_blockLeft_40 : decode b_Place_blockLeft 40 = .ok (.iload_n 3, 1) := by decide +kernel
theorem d_Place_blockLeft_41 : decode b_Place_blockLeft 41 = .ok (.iload_n 1, 1) := by decide +kernel
theorem d_Place_blockLeft_42 : decode b_Place_blockLeft 42 = .ok (.isub, 1) := by decide +kernel
theorem d_Place_blockLeft_43 : decode b_Place_blockLeft 43 = .ok (.goto 4, 3) := by decide +kernel
theorem d_Place_blockLeft_46 : decode b_Place_blockLeft 46 = .ok (.iload_n 2, 1) := by decide +kernel
theorem d_Place_blockLeft_47 : decode b_Place_blockLeft 47 = .ok (.istore 4, 2) := by decide +kernel
theorem d_Place_blockLeft_49 : decode b_Place_blockLeft 49 = .ok (.aload_n 0, 1) := by decide +kernel
theorem d_Place_blockLeft_50 : decode b_Place_blockLeft 50 = .ok (.getfield 15, 3) := by decide +kernel
theorem d_Place_blockLeft_53 : decode b_Place_blockLeft 53 = .ok (.aload_n 0, 1) := by decide +kernel
theorem d_Place_blockLeft_54 : decode b_Place_blockLeft 54 = .ok (.getfield 28, 3) := by decide +kernel
theorem d_Place_blockLeft_57 : decode b_Place_blockLeft 57 = .ok (.iload 4, 2) := by decide +kernel
theorem d_Place_blockLeft_59 : decode b_Place_blockLeft 59 = .ok (.imul, 1) := by decide +kernel
theorem d_Place_blockLeft_60 : decode b_Place_blockLeft 60 = .ok (.iadd, 1) := by decide +kernel
theorem d_Place_blockLeft_61 : decode b_Place_blockLeft 61 = .ok (.ireturn, 1) := by decide +kernel
theorem d_Place_blockTop_0 : decode b_Place_blockTop 0 = .ok (.aload_n 0, 1) := by decide +kernel
theorem d_Place_blockTop_1 : decode b_Place_blockTop 1 = .ok (.getfield 37, 3) := by decide +kernel
theorem d_Place_blockTop_4 : decode b_Place_blockTop 4 = .ok (.iconst 1, 1) := by decide +kernel
theorem d_Place_blockTop_5 : decode b_Place_blockTop 5 = .ok (.isub, 1) := by decide +kernel
theorem d_Place_blockTop_6 : decode b_Place_blockTop 6 = .ok (.istore_n 3, 1) := by decide +kernel
theorem d_Place_blockTop_7 : decode b_Place_blockTop 7 = .ok (.aload_n 0, 1) := by decide +kernel
theorem d_Place_blockTop_8 : decode b_Place_blockTop 8 = .ok (.getfield 43, 3) := by decide +kernel
theorem d_Place_blockTop_11 : decode b_Place_blockTop 11 = .ok (.ifCond .ne 7, 3) := by decide +kernel
theorem d_Place_blockTop_14 : decode b_Place_blockTop 14 = .ok (.iload_n 2, 1) := by decide +kernel
theorem d_Place_blockTop_15 : decode b_Place_blockTop 15 = .ok (.goto 32, 3) := by decide +kernel
theorem d_Place_blockTop_18 : decode b_Place_blockTop 18 = .ok (.aload_n 0, 1) := by decide +kernel
theorem d_Place_blockTop_19 : decode b_Place_blockTop 19 = .ok (.getfield 43, 3) := by decide +kernel
theorem d_Place_blockTop_22 : decode b_Place_blockTop 22 = .ok (.iconst 1, 1) := by decide +kernel
theorem d_Place_blockTop_23 : decode b_Place_blockTop 23 = .ok (.if_icmp .ne 7, 3) := by decide +kernel
theorem d_Place_blockTop_26 : decode b_Place_blockTop 26 = .ok (.iload_n 1, 1) := by decide +kernel
theorem d_Place_blockTop_27 : decode b_Place_blockTop 27 = .ok (.goto 20, 3) := by decide +kernel
theorem d_Place_blockTop_30 : decode b_Place_blockTop 30 = .ok (.aload_n 0, 1) := by decide +kernel
theorem d_Place_blockTop_31 : decode b_Place_blockTop 31 = .ok (.getfield 43, 3) := by decide +kernel
theorem d_Place_blockTop_34 : decode b_Place_blockTop 34 = .ok (.iconst 2, 1) := by decide +kernel
theorem d_Place_blockTop_35 : decode b_Place_blockTop 35 = .ok (.if_icmp .ne 9, 3) := by decide +kernel
theorem d_Place_blockTop_38 : decode b_Place_blockTop 38 = .ok (.iload_n 3, 1) := by decide +kernel
theorem d_Place_blockTop_39 : decode b_Place_blockTop 39 = .ok (.iload_n 2, 1) := by decide +kernel
theorem d_Place_blockTop_40 : decode b_Place_blockTop 40 = .ok (.isub, 1) := by decide +kernel
theorem d_Place_blockTop_41 : decode b_Place_blockTop 41 = .ok (.goto 6, 3) := by decide +kernel
theorem d_Place_blockTop_44 : decode b_Place_blockTop 44 = .ok (.iload_n 3, 1) := by decide +kernel
theorem d_Place_blockTop_45 : decode b_Place_blockTop 45 = .ok (.iload_n 1, 1) := by decide +kernel
theorem d_Place_blockTop_46 : decode b_Place_blockTop 46 = .ok (.isub, 1) := by decide +kernel
theorem d_Place_blockTop_47 : decode b_Place_blockTop 47 = .ok (.istore 4, 2) := by decide +kernel
theorem d_Place_blockTop_49 : decode b_Place_blockTop 49 = .ok (.aload_n 0, 1) := by decide +kernel
theorem d_Place_blockTop_50 : decode b_Place_blockTop 50 = .ok (.getfield 22, 3) := by decide +kernel
theorem d_Place_blockTop_53 : decode b_Place_blockTop 53 = .ok (.aload_n 0, 1) := by decide +kernel
theorem d_Place_blockTop_54 : decode b_Place_blockTop 54 = .ok (.getfield 28, 3) := by decide +kernel
theorem d_Place_blockTop_57 : decode b_Place_blockTop 57 = .ok (.iload 4, 2) := by decide +kernel
theorem d_Place_blockTop_59 : decode b_Place_blockTop 59 = .ok (.imul, 1) := by decide +kernel
theorem d_Place_blockTop_60 : decode b_Place_blockTop 60 = .ok (.iadd, 1) := by decide +kernel
theorem d_Place_blockTop_61 : decode b_Place_blockTop 61 = .ok (.ireturn, 1) := by decide +kernel
