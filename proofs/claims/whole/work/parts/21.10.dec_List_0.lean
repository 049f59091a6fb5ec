theorem d_List_init_0 : decode b_List_init 0 = .ok (.aload_n 0, 1) := by decide +kernel
theorem d_List_init_1 : decode b_List_init 1 = .ok (.invokespecial 3, 3) := by decide +kernel
theorem d_List_init_4 : decode b_List_init 4 = .ok (.aload_n 0, 1) := by decide +kernel
theorem d_List_init_5 : decode b_List_init 5 = .ok (.sipush 300, 3) := by decide +kernel
theorem d_List_init_8 : decode b_List_init 8 = .ok (.newarray .int, 2) := by decide +kernel
theorem d_List_init_10 : decode b_List_init 10 = .ok (.putfield 9, 3) := by decide +kernel
theorem d_List_init_13 : decode b_List_init 13 = .ok (.aload_n 0, 1) := by decide +kernel
theorem d_List_init_14 : decode b_List_init 14 = .ok (.sipush 300, 3) := by decide +kernel
theorem d_List_init_17 : decode b_List_init 17 = .ok (.newarray .int, 2) := by decide +kernel
theorem d_List_init_19 : decode b_List_init 19 = .ok (.putfield 15, 3) := by decide +kernel
theorem d_List_init_22 : decode b_List_init 22 = .ok (.return_, 1) := by decide +kernel
theorem d_List_clear_0 : decode b_List_clear 0 = .ok (.aload_n 0, 1) := by decide +kernel
theorem d_List_clear_1 : decode b_List_clear 1 = .ok (.iconst 0, 1) := by decide +kernel
theorem d_List_clear_2 : decode b_List_clear 2 = .ok (.putfield 18, 3) := by decide +kernel
theorem d_List_clear_5 : decode b_List_clear 5 = .ok (.return_, 1) := by decide +kernel
theorem d_List_add_0 : decode b_List_add 0 = .ok (.aload_n 0, 1) := by decide +kernel
theorem d_List_add_1 : decode b_List_add 1 = .ok (.getfield 18, 3) := by decide +kernel
theorem d_List_add_4 : decode b_List_add 4 = .ok (.ifCond .lt 13, 3) := by decide +kernel
theorem d_List_add_7 : decode b_List_add 7 = .ok (.aload_n 0, 1) := by decide +kernel
theorem d_List_add_8 : decode b_List_add 8 = .ok (.getfield 18, 3) := by decide +kernel
theorem d_List_add_11 : decode b_List_add 11 = .ok (.sipush 300, 3) := by decide +kernel
theorem d_List_add_14 : decode b_List_add 14 = .ok (.if_icmp .lt 5, 3) := by decide +kernel
theorem d_List_add_17 : decode b_List_add 17 = .ok (.iconst 0, 1) := by decide +kernel
theorem d_List_add_18 : decode b_List_add 18 = .ok (.ireturn, 1) := by decide +kernel
theorem d_List_add_19 : decode b_List_add 19 = .ok (.aload_n 0, 1) := by decide +kernel
theorem d_List_add_20 : decode b_List_add 20 = .ok (.getfield 18, 3) := by decide +kernel
theorem d_List_add_23 : decode b_List_add 23 = .ok (.istore_n 3, 1) := by decide +kernel
theorem d_List_add_24 : decode b_List_add 24 = .ok (.iload_n 3, 1) := by decide +kernel
theorem d_List_add_25 : decode b_List_add 25 = .ok (.ifCond .le 49, 3) := by decide +kernel
theorem d_List_add_28 : decode b_List_add 28 = .ok (.aload_n 0, 1) := by decide +kernel
theorem d_List_add_29 : decode b_List_add 29 = .ok (.getfield 9, 3) := by decide +kernel
theorem d_List_add_32 : decode b_List_add 32 = .ok (.iload_n 3, 1) := by decide +kernel
theorem d_List_add_33 : decode b_List_add 33 = .ok (.iconst 1, 1) := by decide +kernel
theorem d_List_add_34 : decode b_List_add 34 = .ok (.isub, 1) := by decide +kernel
theorem d_List_add_35 : decode b_List_add 35 = .ok (.iaload, 1) := by decide +kernel
theorem d_List_add_36 : decode b_List_add 36 = .ok (.iload_n 1, 1) := by decide +kernel
theorem d_List_add_37 : decode b_List_add 37 = .ok (.if_icmp .le 37, 3) := by decide +kernel
theorem d_List_add_40 : decode b_List_add 40 = .ok (.aload_n 0, 1) := by decide +kernel
theorem d_List_add_41 : decode b_List_add 41 = .ok (.getfield 9, 3) := by decide +kernel
theorem d_List_add_44 : decode b_List_add 44 = .ok (.iload_n 3, 1) := by decide +kernel
theorem d_List_add_45 : decode b_List_add 45 = .ok (.aload_n 0, 1) := by decide +kernel
theorem d_List_add_46 : decode b_List_add 46 = .ok (.getfield 9, 3) := by decide +kernel
theorem d_List_add_49 : decode b_List_add 49 = .ok (.iload_n 3, 1) := by decide +kernel
theorem d_List_add_50 : decode b_List_add 50 = .ok (.iconst 1, 1) := by decide +kernel
theorem d_List_add_51 : decode b_List_add 51 = .ok (.isub, 1) := by decide +kernel
theorem d_List_add_52 : decode b_List_add 52 = .ok (.iaload, 1) := by decide +kernel
theorem d_List_add_53 : decode b_List_add 53 = .ok (.iastore, 1) := by decide +kernel
theorem d_List_add_54 : decode b_List_add 54 = .ok (.aload_n 0, 1) := by decide +kernel
theorem d_List_add_55 : decode b_List_add 55 = .ok (.getfield 15, 3) := by decide +kernel
theorem d_List_add_58 : decode b_List_add 58 = .ok (.iload_n 3, 1) := by decide +kernel
theorem d_List_add_59 : decode b_List_add 59 = .ok (.aload_n 0, 1) := by decide +kernel
theorem d_List_add_60 : decode b_List_add 60 = .ok (.getfield 15, 3) := by decide +kernel
theorem d_List_add_63 : decode b_List_add 63 = .ok (.iload_n 3, 1) := by decide +kernel
theorem d_List_add_64 : decode b_List_add 64 = .ok (.iconst 1, 1) := by decide +kernel
theorem d_List_add_65 : decode b_List_add 65 = .ok (.isub, 1) := by decide +kernel
theorem d_List_add_66 : decode b_List_add 66 = .ok (.iaload, 1) := by decide +kernel
theorem d_List_add_67 : decode b_List_add 67 = .ok (.iastore, 1) := by decide +kernel
theorem d_List_add_68 : decode b_List_add 68 = .ok (.iinc 3 (-1), 3) := by decide +kernel
theorem d_List_add_71 : decode b_List_add 71 = .ok (.goto (-47), 3) := by decide +kernel
theorem d_List_add_74 : decode b_List_add 74 = .ok (.aload_n 0, 1) := by decide +kernel
theorem d_List_add_75 : decode b_List_add 75 = .ok (.getfield 9, 3) := by decide +kernel
theorem d_List_add_78 : decode b_List_add 78 = .ok (.iload_n 3, 1) := by decide +kernel
theorem d_List_add_79 : decode b_List_add 79 = .ok (.iload_n 1, 1) := by decide +kernel
theorem d_List_add_80 : decode b_List_add 80 = .ok (.iastore, 1) := by decide +kernel
theorem d_List_add_81 : decode b_List_add 81 = .ok (.aload_n 0, 1) := by decide +kernel
theorem d_List_add_82 : decode b_List_add 82 = .ok (.getfield 15, 3) := by decide +kernel
theorem d_List_add_85 : decode b_List_add 85 = .ok (.iload_n 3, 1) := by decide +kernel
theorem d_List_add_86 : decode b_List_add 86 = .ok (.iload_n 2, 1) := by decide +kernel
theorem d_List_add_87 : decode b_List_add 87 = .ok (.iastore, 1) := by decide +kernel
theorem d_List_add_88 : decode b_List_add 88 = .ok (.aload_n 0, 1) := by decide +kernel
theorem d_List_add_89 : decode b_List_add 89 = .ok (.dup, 1) := by decide +kernel
theorem d_List_add_90 : decode b_List_add 90 = .ok (.getfield 18, 3) := by decide +kernel
theorem d_List_add_93 : decode b_List_add 93 = .ok (.iconst 1, 1) := by decide +kernel
theorem d_List_add_94 : decode b_List_add 94 = .ok (.iadd, 1) := by decide +kernel
theorem d_List_add_95 : decode b_List_add 95 = .ok (.putfield 18, 3) := by decide +kernel
theorem d_List_add_98 : decode b_List_add 98 = .ok (.iconst 1, 1) := by decide +kernel
theorem d_List_add_99 : decode b_List_add 99 = .ok (.ireturn, 1) := by decide +kernel
theorem d_List_takeLeaders_0 : decode b_List_takeLeaders 0 = .ok (.aload_n 0, 1) := by decide +kernel
theorem d_List_takeLeaders_1 : decode b_List_takeLeaders 1 = .ok (.invokevirtual 22, 3) := by decide +kernel
theorem d_List_takeLeaders_4 : decode b_List_takeLeaders 4 = .ok (.iconst 0, 1) := by decide +kernel
theorem d_List_takeLeaders_5 : decode b_List_takeLeaders 5 = .ok (.istore_n 2, 1) := by decide +kernel
theorem d_List_takeLeaders_6 : decode b_List_takeLeaders 6 = .ok (.iload_n 2, 1) := by decide +kernel
theorem d_List_takeLeaders_7 : decode b_List_takeLeaders 7 = .ok (.aload_n 1, 1) := by decide +kernel
theorem d_List_takeLeaders_8 : decode b_List_takeLeaders 8 = .ok (.getfield 18, 3) := by decide +kernel
theorem d_List_takeLeaders_11 : decode b_List_takeLeaders 11 = .ok (.if_icmp .ge 34, 3) := by decide +kernel
theorem d_List_takeLeaders_14 : decode b_List_takeLeaders 14 = .ok (.aload_n 1, 1) := by decide +kernel
theorem d_List_takeLeaders_15 : decode b_List_takeLeaders 15 = .ok (.iload_n 2, 1) := by decide +kernel
theorem d_List_takeLeaders_16 : decode b_List_takeLeaders 16 = .ok (.invokevirtual 25, 3) := by decide +kernel
theorem d_List_takeLeaders_19 : decode b_List_takeLeaders 19 = .ok (.ifCond .eq 20, 3) := by decide +kernel
theorem d_List_takeLeaders_22 : decode b_List_takeLeaders 22 = .ok (.aload_n 0, 1) := by decide +kernel
theorem d_List_takeLeaders_23 : decode b_List_takeLeaders 23 = .ok (.aload_n 1, 1) := by decide +kernel
theorem d_List_takeLeaders_24 : decode b_List_takeLeaders 24 = .ok (.getfield 9, 3) := by decide +kernel
theorem d_List_takeLeaders_27 : decode b_List_takeLeaders 27 = .ok (.iload_n 2, 1) := by decide +kernel
theorem d_List_takeLeaders_28 : decode b_List_takeLeaders 28 = .ok (.iaload, 1) := by decide +kernel
theorem d_List_takeLeaders_29 : decode b_List_takeLeaders 29 = .ok (.aload_n 1, 1) := by decide +kernel
theorem d_List_takeLeaders_30 : decode b_List_takeLeaders 30 = .ok (.getfield 15, 3) := by decide +kernel
theorem d_List_takeLeaders_33 : decode b_List_takeLeaders 33 = .ok (.iload_n 2, 1) := by decide +kernel
theorem d_List_takeLeaders_34 : decode b_List_takeLeaders 34 = .ok (.iaload, 1) := by decide +kernel
theorem d_List_takeLeaders_35 : decode b_List_takeLeaders 35 = .ok (.invokevirtual 29, 3) := by decide +kernel
theorem d_List_takeLeaders_38 : decode b_List_takeLeaders 38 = .ok (.pop, 1) := by decide +kernel
theorem d_List_takeLeaders_39 : decode b_List_takeLeaders 39 = .ok (.iinc 2 1, 3) := by decide +kernel
theorem d_List_takeLeaders_42 : decode b_List_takeLeaders 42 = .ok (.goto (-36), 3) := by decide +kernel
theorem d_List_takeLeaders_45 : decode b_List_takeLeaders 45 = .ok (.return_, 1) := by decide +kernel
theorem d_List_leads_0 : decode b_List_leads 0 = .ok (.iconst 0, 1) := by decide +kernel
theorem d_List_leads_1 : decode b_List_leads 1 = .ok (.istore_n 2, 1) := by decide +kernel
theorem d_List_leads_2 : decode b_List_leads 2 = .ok (.iload_n 2, 1) := by decide +kernel
theorem d_List_leads_3 : decode b_List_leads 3 = .ok (.aload_n 0, 1) := by decide +kernel
theorem d_List_leads_4 : decode b_List_leads 4 = .ok (.getfield 18, 3) := by decide +kernel
theorem d_List_leads_7 : decode b_List_leads 7 = .ok (.if_icmp .ge 38, 3) := by decide +kernel
theorem d_List_leads_10 : decode b_List_leads 10 = .ok (.aload_n 0, 1) := by decide +kernel
theorem d_List_leads_11 : decode b_List_leads 11 = .ok (.iload_n 2, 1) := by decide +kernel
theorem d_List_leads_12 : decode b_List_leads 12 = .ok (.iload_n 1, 1) := by decide +kernel
theorem d_List_leads_13 : decode b_List_leads 13 = .ok (.invokevirtual 33, 3) := by decide +kernel
theorem d_List_leads_16 : decode b_List_leads 16 = .ok (.ifCond .eq 23, 3) := by decide +kernel
theorem d_List_leads_19 : decode b_List_leads 19 = .ok (.aload_n 0, 1) := by decide +kernel
theorem d_List_leads_20 : decode b_List_leads 20 = .ok (.getfield 9, 3) := by decide +kernel
theorem d_List_leads_23 : decode b_List_leads 23 = .ok (.iload_n 2, 1) := by decide +kernel
theorem d_List_leads_24 : decode b_List_leads 24 = .ok (.iaload, 1) := by decide +kernel
theorem d_List_leads_25 : decode b_List_leads 25 = .ok (.aload_n 0, 1) := by decide +kernel
theorem d_List_leads_26 : decode b_List_leads 26 = .ok (.getfield 9, 3) := by decide +kernel
theorem d_List_leads_29 : decode b_List_leads 29 = .ok (.iload_n 1, 1) := by decide +kernel
theorem d_List_leads_30 : decode b_List_leads 30 = .ok (.iaload, 1) := by decide +kernel
theorem d_List_leads_31 : decode b_List_leads 31 = .ok (.invokestatic 36, 3) := by decide +kernel
theorem d_List_leads_34 : decode b_List_leads 34 = .ok (.ifCond .eq 5, 3) := by decide +kernel
theorem d_List_leads_37 : decode b_List_leads 37 = .ok (.iconst 0, 1) := by decide +kernel
theorem d_List_leads_38 : decode b_List_leads 38 = .ok (.ireturn, 1) := by decide +kernel
theorem d_List_leads_39 : decode b_List_leads 39 = .ok (.iinc 2 1, 3) := by decide +kernel
theorem d_List_leads_42 : decode b_List_leads 42 = .ok (.goto (-40), 3) := by decide +kernel
theorem d_List_leads_45 : decode b_List_leads 45 = .ok (.iconst 1, 1) := by decide +kernel
theorem d_List_leads_46 : decode b_List_leads 46 = .ok (.ireturn, 1) := by decide +kernel
theorem d_List_isBetter_0 : decode b_List_isBetter 0 = .ok (.aload_n 0, 1) := by decide +kernel
theorem d_List_isBetter_1 : decode b_List_isBetter 1 = .ok (.getfield 15, 3) := by decide +kernel
theorem d_List_isBetter_4 : decode b_List_isBetter 4 = .ok (.iload_n 1, 1) := by decide +kernel
theorem d_List_isBetter_5 : decode b_List_isBetter 5 = .ok (.iaload, 1) := by decide +kernel
theorem d_List_isBetter_6 : decode b_List_isBetter 6 = .ok (.aload_n 0, 1) := by decide +kernel
theorem d_List_isBetter_7 : decode b_List_isBetter 7 = .ok (.getfield 15, 3) := by decide +kernel
theorem d_List_isBetter_10 : decode b_List_isBetter 10 = .ok (.iload_n 2, 1) := by decide +kernel
theorem d_List_isBetter_11 : decode b_List_isBetter 11 = .ok (.iaload, 1) := by decide +kernel
theorem d_List_isBetter_12 : decode b_List_isBetter 12 = .ok (.if_icmp .lt 23, 3) := by decide +kernel
theorem d_List_isBetter_15 : decode b_List_isBetter 15 = .ok (.aload_n 0, 1) := by decide +kernel
theorem d_List_isBetter_16 : decode b_List_isBetter 16 = .ok (.getfield 15, 3) := by decide +kernel
theorem d_List_isBetter_19 : decode b_List_isBetter 19 = .ok (.iload_n 1, 1) := by decide +kernel
theorem d_List_isBetter_20 : decode b_List_isBetter 20 = .ok (.iaload, 1) := by decide +kernel
theorem d_List_isBetter_21 : decode b_List_isBetter 21 = .ok (.aload_n 0, 1) := by decide +kernel
theorem d_List_isBetter_22 : decode b_List_isBetter 22 = .ok (.getfield 15, 3) := by decide +kernel
theorem d_List_isBetter_25 : decode b_List_isBetter 25 = .ok (.iload_n 2, 1) := by decide +kernel
theorem d_List_isBetter_26 : decode b_List_isBetter 26 = .ok (.iaload, 1) := by decide +kernel
theorem d_List_isBetter_27 : decode b_List_isBetter 27 = .ok (.if_icmp .ne 12, 3) := by decide +kernel
theorem d_List_isBetter_30 : decode b_List_isBetter 30 = .ok (.iload_n 1, 1) := by decide +kernel
theorem d_List_isBetter_31 : decode b_List_isBetter 31 = .ok (.iload_n 2, 1) := by decide +kernel
theorem d_List_isBetter_32 : decode b_List_isBetter 32 = .ok (.if_icmp .ge 7, 3) := by decide +kernel
theorem d_List_isBetter_35 : decode b_List_isBetter 35 = .ok (.iconst 1, 1) := by decide +kernel
theorem d_List_isBetter_36 : decode b_List_isBetter 36 = .ok (.goto 4, 3) := by decide +kernel
theorem d_List_isBetter_39 : decode b_List_isBetter 39 = .ok (.iconst 0, 1) := by decide +kernel
theorem d_List_isBetter_40 : decode b_List_isBetter 40 = .ok (.ireturn, 1) := by decide +kernel
