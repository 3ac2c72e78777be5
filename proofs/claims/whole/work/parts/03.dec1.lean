theorem d_X_mix_0 : decode b_X_mix 0 = .ok (.iload_n 0, 1) := by decide +kernel
theorem d_X_mix_1 : decode b_X_mix 1 = .ok (.iload_n 1, 1) := by decide +kernel
theorem d_X_mix_2 : decode b_X_mix 2 = .ok (.ixor, 1) := by decide +kernel
theorem d_X_mix_3 : decode b_X_mix 3 = .ok (.ldc 141, 2) := by decide +kernel
theorem d_X_mix_5 : decode b_X_mix 5 = .ok (.imul, 1) := by decide +kernel
theorem d_X_mix_6 : decode b_X_mix 6 = .ok (.ireturn, 1) := by decide +kernel
theorem d_T_takeInterrupt_0 : decode b_T_takeInterrupt 0 = .ok (.aload_n 0, 1) := by decide +kernel
theorem d_T_takeInterrupt_1 : decode b_T_takeInterrupt 1 = .ok (.iload_n 1, 1) := by decide +kernel
theorem d_T_takeInterrupt_2 : decode b_T_takeInterrupt 2 = .ok (.iconst 3, 1) := by decide +kernel
theorem d_T_takeInterrupt_3 : decode b_T_takeInterrupt 3 = .ok (.invokevirtual 34, 3) := by decide +kernel
theorem d_T_takeInterrupt_6 : decode b_T_takeInterrupt 6 = .ok (.ireturn, 1) := by decide +kernel
theorem d_T_hasEntry_0 : decode b_T_hasEntry 0 = .ok (.iconst 0, 1) := by decide +kernel
theorem d_T_hasEntry_1 : decode b_T_hasEntry 1 = .ok (.istore_n 3, 1) := by decide +kernel
theorem d_T_hasEntry_2 : decode b_T_hasEntry 2 = .ok (.iload_n 3, 1) := by decide +kernel
theorem d_T_hasEntry_3 : decode b_T_hasEntry 3 = .ok (.sipush 300, 3) := by decide +kernel
theorem d_T_hasEntry_6 : decode b_T_hasEntry 6 = .ok (.if_icmp .ge 39, 3) := by decide +kernel
theorem d_T_hasEntry_9 : decode b_T_hasEntry 9 = .ok (.aload_n 0, 1) := by decide +kernel
theorem d_T_hasEntry_10 : decode b_T_hasEntry 10 = .ok (.getfield 9, 3) := by decide +kernel
theorem d_T_hasEntry_13 : decode b_T_hasEntry 13 = .ok (.getfield 20, 3) := by decide +kernel
theorem d_T_hasEntry_16 : decode b_T_hasEntry 16 = .ok (.ifCond .eq 29, 3) := by decide +kernel
theorem d_T_hasEntry_19 : decode b_T_hasEntry 19 = .ok (.aload_n 0, 1) := by decide +kernel
theorem d_T_hasEntry_20 : decode b_T_hasEntry 20 = .ok (.getfield 9, 3) := by decide +kernel
theorem d_T_hasEntry_23 : decode b_T_hasEntry 23 = .ok (.getfield 41, 3) := by decide +kernel
theorem d_T_hasEntry_26 : decode b_T_hasEntry 26 = .ok (.iload_n 1, 1) := by decide +kernel
theorem d_T_hasEntry_27 : decode b_T_hasEntry 27 = .ok (.i2l, 1) := by decide +kernel
theorem d_T_hasEntry_28 : decode b_T_hasEntry 28 = .ok (.lcmp, 1) := by decide +kernel
theorem d_T_hasEntry_29 : decode b_T_hasEntry 29 = .ok (.ifCond .ge 16, 3) := by decide +kernel
theorem d_T_hasEntry_32 : decode b_T_hasEntry 32 = .ok (.aload_n 0, 1) := by decide +kernel
theorem d_T_hasEntry_33 : decode b_T_hasEntry 33 = .ok (.getfield 9, 3) := by decide +kernel
theorem d_T_hasEntry_36 : decode b_T_hasEntry 36 = .ok (.invokevirtual 24, 3) := by decide +kernel
theorem d_T_hasEntry_39 : decode b_T_hasEntry 39 = .ok (.iinc 3 1, 3) := by decide +kernel
theorem d_T_hasEntry_42 : decode b_T_hasEntry 42 = .ok (.goto (-40), 3) := by decide +kernel
theorem d_T_hasEntry_45 : decode b_T_hasEntry 45 = .ok (.aload_n 0, 1) := by decide +kernel
theorem d_T_hasEntry_46 : decode b_T_hasEntry 46 = .ok (.getfield 9, 3) := by decide +kernel
theorem d_T_hasEntry_49 : decode b_T_hasEntry 49 = .ok (.getfield 20, 3) := by decide +kernel
theorem d_T_hasEntry_52 : decode b_T_hasEntry 52 = .ok (.ifCond .eq 31, 3) := by decide +kernel
theorem d_T_hasEntry_55 : decode b_T_hasEntry 55 = .ok (.aload_n 0, 1) := by decide +kernel
theorem d_T_hasEntry_56 : decode b_T_hasEntry 56 = .ok (.getfield 9, 3) := by decide +kernel
theorem d_T_hasEntry_59 : decode b_T_hasEntry 59 = .ok (.getfield 41, 3) := by decide +kernel
theorem d_T_hasEntry_62 : decode b_T_hasEntry 62 = .ok (.iload_n 1, 1) := by decide +kernel
theorem d_T_hasEntry_63 : decode b_T_hasEntry 63 = .ok (.i2l, 1) := by decide +kernel
theorem d_T_hasEntry_64 : decode b_T_hasEntry 64 = .ok (.lcmp, 1) := by decide +kernel
theorem d_T_hasEntry_65 : decode b_T_hasEntry 65 = .ok (.ifCond .ne 18, 3) := by decide +kernel
theorem d_T_hasEntry_68 : decode b_T_hasEntry 68 = .ok (.aload_n 0, 1) := by decide +kernel
theorem d_T_hasEntry_69 : decode b_T_hasEntry 69 = .ok (.getfield 9, 3) := by decide +kernel
theorem d_T_hasEntry_72 : decode b_T_hasEntry 72 = .ok (.getfield 45, 3) := by decide +kernel
theorem d_T_hasEntry_75 : decode b_T_hasEntry 75 = .ok (.iload_n 2, 1) := by decide +kernel
theorem d_T_hasEntry_76 : decode b_T_hasEntry 76 = .ok (.if_icmp .ne 7, 3) := by decide +kernel
theorem d_T_hasEntry_79 : decode b_T_hasEntry 79 = .ok (.iconst 1, 1) := by decide +kernel
theorem d_T_hasEntry_80 : decode b_T_hasEntry 80 = .ok (.goto 4, 3) := by decide +kernel
theorem d_T_hasEntry_83 : decode b_T_hasEntry 83 = .ok (.iconst 0, 1) := by decide +kernel
theorem d_T_hasEntry_84 : decode b_T_hasEntry 84 = .ok (.ireturn, 1) := by decide +kernel
theorem d_D_readEntry_0 : decode b_D_readEntry 0 = .ok (.aload_n 0, 1) := by decide +kernel
theorem d_D_readEntry_1 : decode b_D_readEntry 1 = .ok (.iconst 0, 1) := by decide +kernel
theorem d_D_readEntry_2 : decode b_D_readEntry 2 = .ok (.putfield 30, 3) := by decide +kernel
theorem d_D_readEntry_5 : decode b_D_readEntry 5 = .ok (.aload_n 0, 1) := by decide +kernel
theorem d_D_readEntry_6 : decode b_D_readEntry 6 = .ok (.getfield 23, 3) := by decide +kernel
theorem d_D_readEntry_9 : decode b_D_readEntry 9 = .ok (.ifCond .ne 17, 3) := by decide +kernel
theorem d_D_readEntry_12 : decode b_D_readEntry 12 = .ok (.aload_n 0, 1) := by decide +kernel
theorem d_D_readEntry_13 : decode b_D_readEntry 13 = .ok (.getfield 9, 3) := by decide +kernel
theorem d_D_readEntry_16 : decode b_D_readEntry 16 = .ok (.aload_n 0, 1) := by decide +kernel
theorem d_D_readEntry_17 : decode b_D_readEntry 17 = .ok (.getfield 15, 3) := by decide +kernel
theorem d_D_readEntry_20 : decode b_D_readEntry 20 = .ok (.invokevirtual 33, 3) := by decide +kernel
theorem d_D_readEntry_23 : decode b_D_readEntry 23 = .ok (.ifCond .ne 4, 3) := by decide +kernel
theorem d_D_readEntry_26 : decode b_D_readEntry 26 = .ok (.return_, 1) := by decide +kernel
theorem d_D_readEntry_27 : decode b_D_readEntry 27 = .ok (.aload_n 0, 1) := by decide +kernel
theorem d_D_readEntry_28 : decode b_D_readEntry 28 = .ok (.invokevirtual 39, 3) := by decide +kernel
theorem d_D_readEntry_31 : decode b_D_readEntry 31 = .ok (.istore_n 1, 1) := by decide +kernel
theorem d_D_readEntry_32 : decode b_D_readEntry 32 = .ok (.iload_n 1, 1) := by decide +kernel
theorem d_D_readEntry_33 : decode b_D_readEntry 33 = .ok (.iconst 2, 1) := by decide +kernel
theorem d_D_readEntry_34 : decode b_D_readEntry 34 = .ok (.iushr, 1) := by decide +kernel
theorem d_D_readEntry_35 : decode b_D_readEntry 35 = .ok (.istore_n 2, 1) := by decide +kernel
theorem d_D_readEntry_36 : decode b_D_readEntry 36 = .ok (.aload_n 0, 1) := by decide +kernel
theorem d_D_readEntry_37 : decode b_D_readEntry 37 = .ok (.iload_n 1, 1) := by decide +kernel
theorem d_D_readEntry_38 : decode b_D_readEntry 38 = .ok (.iconst 3, 1) := by decide +kernel
theorem d_D_readEntry_39 : decode b_D_readEntry 39 = .ok (.iand, 1) := by decide +kernel
theorem d_D_readEntry_40 : decode b_D_readEntry 40 = .ok (.putfield 43, 3) := by decide +kernel
theorem d_D_readEntry_43 : decode b_D_readEntry 43 = .ok (.aload_n 0, 1) := by decide +kernel
theorem d_D_readEntry_44 : decode b_D_readEntry 44 = .ok (.aload_n 0, 1) := by decide +kernel
theorem d_D_readEntry_45 : decode b_D_readEntry 45 = .ok (.getfield 43, 3) := by decide +kernel
theorem d_D_readEntry_48 : decode b_D_readEntry 48 = .ok (.iconst 1, 1) := by decide +kernel
theorem d_D_readEntry_49 : decode b_D_readEntry 49 = .ok (.if_icmp .eq 11, 3) := by decide +kernel
theorem d_D_readEntry_52 : decode b_D_readEntry 52 = .ok (.aload_n 0, 1) := by decide +kernel
theorem d_D_readEntry_53 : decode b_D_readEntry 53 = .ok (.getfield 43, 3) := by decide +kernel
theorem d_D_readEntry_56 : decode b_D_readEntry 56 = .ok (.iconst 2, 1) := by decide +kernel
theorem d_D_readEntry_57 : decode b_D_readEntry 57 = .ok (.if_icmp .ne 10, 3) := by decide +kernel
theorem d_D_readEntry_60 : decode b_D_readEntry 60 = .ok (.aload_n 0, 1) := by decide +kernel
theorem d_D_readEntry_61 : decode b_D_readEntry 61 = .ok (.invokevirtual 39, 3) := by decide +kernel
theorem d_D_readEntry_64 : decode b_D_readEntry 64 = .ok (.goto 4, 3) := by decide +kernel
theorem d_D_readEntry_67 : decode b_D_readEntry 67 = .ok (.iconst 0, 1) := by decide +kernel
theorem d_D_readEntry_68 : decode b_D_readEntry 68 = .ok (.putfield 46, 3) := by decide +kernel
theorem d_D_readEntry_71 : decode b_D_readEntry 71 = .ok (.aload_n 0, 1) := by decide +kernel
theorem d_D_readEntry_72 : decode b_D_readEntry 72 = .ok (.dup, 1) := by decide +kernel
theorem d_D_readEntry_73 : decode b_D_readEntry 73 = .ok (.getfield 19, 3) := by decide +kernel
theorem d_D_readEntry_76 : decode b_D_readEntry 76 = .ok (.iload_n 2, 1) := by decide +kernel
theorem d_D_readEntry_77 : decode b_D_readEntry 77 = .ok (.i2l, 1) := by decide +kernel
theorem d_D_readEntry_78 : decode b_D_readEntry 78 = .ok (.ladd, 1) := by decide +kernel
theorem d_D_readEntry_79 : decode b_D_readEntry 79 = .ok (.putfield 19, 3) := by decide +kernel
theorem d_D_readEntry_82 : decode b_D_readEntry 82 = .ok (.aload_n 0, 1) := by decide +kernel
theorem d_D_readEntry_83 : decode b_D_readEntry 83 = .ok (.getfield 43, 3) := by decide +kernel
theorem d_D_readEntry_86 : decode b_D_readEntry 86 = .ok (.ifCond .eq 7, 3) := by decide +kernel
theorem d_D_readEntry_89 : decode b_D_readEntry 89 = .ok (.iload_n 2, 1) := by decide +kernel
theorem d_D_readEntry_90 : decode b_D_readEntry 90 = .ok (.ifCond .ne 8, 3) := by decide +kernel
theorem d_D_readEntry_93 : decode b_D_readEntry 93 = .ok (.aload_n 0, 1) := by decide +kernel
theorem d_D_readEntry_94 : decode b_D_readEntry 94 = .ok (.iconst 1, 1) := by decide +kernel
theorem d_D_readEntry_95 : decode b_D_readEntry 95 = .ok (.putfield 23, 3) := by decide +kernel
theorem d_D_readEntry_98 : decode b_D_readEntry 98 = .ok (.aload_n 0, 1) := by decide +kernel
theorem d_D_readEntry_99 : decode b_D_readEntry 99 = .ok (.aload_n 0, 1) := by decide +kernel
theorem d_D_readEntry_100 : decode b_D_readEntry 100 = .ok (.getfield 23, 3) := by decide +kernel
theorem d_D_readEntry_103 : decode b_D_readEntry 103 = .ok (.ifCond .ne 7, 3) := by decide +kernel
theorem d_D_readEntry_106 : decode b_D_readEntry 106 = .ok (.iconst 1, 1) := by decide +kernel
theorem d_D_readEntry_107 : decode b_D_readEntry 107 = .ok (.goto 4, 3) := by decide +kernel
theorem d_D_readEntry_110 : decode b_D_readEntry 110 = .ok (.iconst 0, 1) := by decide +kernel
theorem d_D_readEntry_111 : decode b_D_readEntry 111 = .ok (.putfield 30, 3) := by decide +kernel
theorem d_D_readEntry_114 : decode b_D_readEntry 114 = .ok (.return_, 1) := by decide +kernel
theorem d_J_has_0 : decode b_J_has 0 = .ok (.iload_n 1, 1) := by decide +kernel
theorem d_J_has_1 : decode b_J_has 1 = .ok (.ifCond .lt 15, 3) := by decide +kernel
theorem d_J_has_4 : decode b_J_has 4 = .ok (.iload_n 1, 1) := by decide +kernel
theorem d_J_has_5 : decode b_J_has 5 = .ok (.aload_n 0, 1) := by decide +kernel
theorem d_J_has_6 : decode b_J_has 6 = .ok (.getfield 19, 3) := by decide +kernel
theorem d_J_has_9 : decode b_J_has 9 = .ok (.if_icmp .ge 7, 3) := by decide +kernel
theorem d_J_has_12 : decode b_J_has 12 = .ok (.iconst 1, 1) := by decide +kernel
theorem d_J_has_13 : decode b_J_has 13 = .ok (.goto 4, 3) := by decide +kernel
theorem d_J_has_16 : decode b_J_has 16 = .ok (.iconst 0, 1) := by decide +kernel
theorem d_J_has_17 : decode b_J_has 17 = .ok (.ireturn, 1) := by decide +kernel
theorem d_D_readNumber_0 : decode b_D_readNumber 0 = .ok (.iconst 0, 1) := by decide +kernel
theorem d_D_readNumber_1 : decode b_D_readNumber 1 = .ok (.istore_n 1, 1) := by decide +kernel
theorem d_D_readNumber_2 : decode b_D_readNumber 2 = .ok (.iconst 0, 1) := by decide +kernel
theorem d_D_readNumber_3 : decode b_D_readNumber 3 = .ok (.istore_n 2, 1) := by decide +kernel
theorem d_D_readNumber_4 : decode b_D_readNumber 4 = .ok (.iload_n 2, 1) := by decide +kernel
theorem d_D_readNumber_5 : decode b_D_readNumber 5 = .ok (.iconst 5, 1) := by decide +kernel
theorem d_D_readNumber_6 : decode b_D_readNumber 6 = .ok (.if_icmp .ge 67, 3) := by decide +kernel
theorem d_D_readNumber_9 : decode b_D_readNumber 9 = .ok (.aload_n 0, 1) := by decide +kernel
theorem d_D_readNumber_10 : decode b_D_readNumber 10 = .ok (.getfield 9, 3) := by decide +kernel
theorem d_D_readNumber_13 : decode b_D_readNumber 13 = .ok (.aload_n 0, 1) := by decide +kernel
theorem d_D_readNumber_14 : decode b_D_readNumber 14 = .ok (.getfield 15, 3) := by decide +kernel
theorem d_D_readNumber_17 : decode b_D_readNumber 17 = .ok (.invokevirtual 33, 3) := by decide +kernel
theorem d_D_readNumber_20 : decode b_D_readNumber 20 = .ok (.ifCond .eq 53, 3) := by decide +kernel
theorem d_D_readNumber_23 : decode b_D_readNumber 23 = .ok (.aload_n 0, 1) := by decide +kernel
theorem d_D_readNumber_24 : decode b_D_readNumber 24 = .ok (.getfield 9, 3) := by decide +kernel
theorem d_D_readNumber_27 : decode b_D_readNumber 27 = .ok (.getfield 49, 3) := by decide +kernel
theorem d_D_readNumber_30 : decode b_D_readNumber 30 = .ok (.aload_n 0, 1) := by decide +kernel
theorem d_D_readNumber_31 : decode b_D_readNumber 31 = .ok (.getfield 15, 3) := by decide +kernel
theorem d_D_readNumber_34 : decode b_D_readNumber 34 = .ok (.iaload, 1) := by decide +kernel
theorem d_D_readNumber_35 : decode b_D_readNumber 35 = .ok (.istore_n 3, 1) := by decide +kernel
theorem d_D_readNumber_36 : decode b_D_readNumber 36 = .ok (.aload_n 0, 1) := by decide +kernel
theorem d_D_readNumber_37 : decode b_D_readNumber 37 = .ok (.dup, 1) := by decide +kernel
theorem d_D_readNumber_38 : decode b_D_readNumber 38 = .ok (.getfield 15, 3) := by decide +kernel
theorem d_D_readNumber_41 : decode b_D_readNumber 41 = .ok (.iconst 1, 1) := by decide +kernel
theorem d_D_readNumber_42 : decode b_D_readNumber 42 = .ok (.iadd, 1) := by decide +kernel
theorem d_D_readNumber_43 : decode b_D_readNumber 43 = .ok (.putfield 15, 3) := by decide +kernel
theorem d_D_readNumber_46 : decode b_D_readNumber 46 = .ok (.iload_n 1, 1) := by decide +kernel
theorem d_D_readNumber_47 : decode b_D_readNumber 47 = .ok (.iload_n 3, 1) := by decide +kernel
theorem d_D_readNumber_48 : decode b_D_readNumber 48 = .ok (.bipush 127, 2) := by decide +kernel
theorem d_D_readNumber_50 : decode b_D_readNumber 50 = .ok (.iand, 1) := by decide +kernel
theorem d_D_readNumber_51 : decode b_D_readNumber 51 = .ok (.bipush 7, 2) := by decide +kernel
theorem d_D_readNumber_53 : decode b_D_readNumber 53 = .ok (.iload_n 2, 1) := by decide +kernel
theorem d_D_readNumber_54 : decode b_D_readNumber 54 = .ok (.imul, 1) := by decide +kernel
theorem d_D_readNumber_55 : decode b_D_readNumber 55 = .ok (.ishl, 1) := by decide +kernel
theorem d_D_readNumber_56 : decode b_D_readNumber 56 = .ok (.ior, 1) := by decide +kernel
theorem d_D_readNumber_57 : decode b_D_readNumber 57 = .ok (.istore_n 1, 1) := by decide +kernel
theorem d_D_readNumber_58 : decode b_D_readNumber 58 = .ok (.iload_n 3, 1) := by decide +kernel
theorem d_D_readNumber_59 : decode b_D_readNumber 59 = .ok (.sipush 128, 3) := by decide +kernel
theorem d_D_readNumber_62 : decode b_D_readNumber 62 = .ok (.if_icmp .ge 5, 3) := by decide +kernel
theorem d_D_readNumber_65 : decode b_D_readNumber 65 = .ok (.iload_n 1, 1) := by decide +kernel
theorem d_D_readNumber_66 : decode b_D_readNumber 66 = .ok (.ireturn, 1) := by decide +kernel
theorem d_D_readNumber_67 : decode b_D_readNumber 67 = .ok (.iinc 2 1, 3) := by decide +kernel
theorem d_D_readNumber_70 : decode b_D_readNumber 70 = .ok (.goto (-66), 3) := by decide +kernel
theorem d_D_readNumber_73 : decode b_D_readNumber 73 = .ok (.aload_n 0, 1) := by decide +kernel
theorem d_D_readNumber_74 : decode b_D_readNumber 74 = .ok (.iconst 1, 1) := by decide +kernel
theorem d_D_readNumber_75 : decode b_D_readNumber 75 = .ok (.putfield 23, 3) := by decide +kernel
theorem d_D_readNumber_78 : decode b_D_readNumber 78 = .ok (.iconst 0, 1) := by decide +kernel
theorem d_D_readNumber_79 : decode b_D_readNumber 79 = .ok (.ireturn, 1) := by decide +kernel
theorem d_M_perform_0 : decode b_M_perform 0 = .ok (.iload_n 2, 1) := by decide +kernel
theorem d_M_perform_1 : decode b_M_perform 1 = .ok (.iconst 3, 1) := by decide +kernel
theorem d_M_perform_2 : decode b_M_perform 2 = .ok (.iand, 1) := by decide +kernel
theorem d_M_perform_3 : decode b_M_perform 3 = .ok (.istore 5, 2) := by decide +kernel
theorem d_M_perform_5 : decode b_M_perform 5 = .ok (.aload_n 0, 1) := by decide +kernel
theorem d_M_perform_6 : decode b_M_perform 6 = .ok (.getfield 9, 3) := by decide +kernel
theorem d_M_perform_9 : decode b_M_perform 9 = .ok (.iload_n 3, 1) := by decide +kernel
theorem d_M_perform_10 : decode b_M_perform 10 = .ok (.iconst 3, 1) := by decide +kernel
theorem d_M_perform_11 : decode b_M_perform 11 = .ok (.iand, 1) := by decide +kernel
theorem d_M_perform_12 : decode b_M_perform 12 = .ok (.iaload, 1) := by decide +kernel
theorem d_M_perform_13 : decode b_M_perform 13 = .ok (.istore 6, 2) := by decide +kernel
theorem d_M_perform_15 : decode b_M_perform 15 = .ok (.iload_n 1, 1) := by decide +kernel
theorem d_M_perform_16 : decode b_M_perform 16 = .ok (.tableswitch 232 0 10 #[60, 71, 86, 101, 121, 232, 232, 141, 160, 179, 211], 60) := by decide +kernel
theorem d_M_perform_76 : decode b_M_perform 76 = .ok (.aload_n 0, 1) := by decide +kernel
theorem d_M_perform_77 : decode b_M_perform 77 = .ok (.getfield 9, 3) := by decide +kernel
theorem d_M_perform_80 : decode b_M_perform 80 = .ok (.iload 5, 2) := by decide +kernel
theorem d_M_perform_82 : decode b_M_perform 82 = .ok (.iload_n 3, 1) := by decide +kernel
theorem d_M_perform_83 : decode b_M_perform 83 = .ok (.iastore, 1) := by decide +kernel
theorem d_M_perform_84 : decode b_M_perform 84 = .ok (.goto 177, 3) := by decide +kernel
theorem d_M_perform_87 : decode b_M_perform 87 = .ok (.aload_n 0, 1) := by decide +kernel
theorem d_M_perform_88 : decode b_M_perform 88 = .ok (.getfield 9, 3) := by decide +kernel
theorem d_M_perform_91 : decode b_M_perform 91 = .ok (.iload 5, 2) := by decide +kernel
theorem d_M_perform_93 : decode b_M_perform 93 = .ok (.dup2, 1) := by decide +kernel
theorem d_M_perform_94 : decode b_M_perform 94 = .ok (.iaload, 1) := by decide +kernel
theorem d_M_perform_95 : decode b_M_perform 95 = .ok (.iload 6, 2) := by decide +kernel
theorem d_M_perform_97 : decode b_M_perform 97 = .ok (.iadd, 1) := by decide +kernel
theorem d_M_perform_98 : decode b_M_perform 98 = .ok (.iastore, 1) := by decide +kernel
theorem d_M_perform_99 : decode b_M_perform 99 = .ok (.goto 162, 3) := by decide +kernel
theorem d_M_perform_102 : decode b_M_perform 102 = .ok (.aload_n 0, 1) := by decide +kernel
theorem d_M_perform_103 : decode b_M_perform 103 = .ok (.getfield 9, 3) := by decide +kernel
theorem d_M_perform_106 : decode b_M_perform 106 = .ok (.iload 5, 2) := by decide +kernel
theorem d_M_perform_108 : decode b_M_perform 108 = .ok (.dup2, 1) := by decide +kernel
theorem d_M_perform_109 : decode b_M_perform 109 = .ok (.iaload, 1) := by decide +kernel
theorem d_M_perform_110 : decode b_M_perform 110 = .ok (.iload 6, 2) := by decide +kernel
theorem d_M_perform_112 : decode b_M_perform 112 = .ok (.isub, 1) := by decide +kernel
theorem d_M_perform_113 : decode b_M_perform 113 = .ok (.iastore, 1) := by decide +kernel
theorem d_M_perform_114 : decode b_M_perform 114 = .ok (.goto 147, 3) := by decide +kernel
theorem d_M_perform_117 : decode b_M_perform 117 = .ok (.aload_n 0, 1) := by decide +kernel
theorem d_M_perform_118 : decode b_M_perform 118 = .ok (.getfield 9, 3) := by decide +kernel
theorem d_M_perform_121 : decode b_M_perform 121 = .ok (.iload 5, 2) := by decide +kernel
theorem d_M_perform_123 : decode b_M_perform 123 = .ok (.aload_n 0, 1) := by decide +kernel
theorem d_M_perform_124 : decode b_M_perform 124 = .ok (.getfield 15, 3) := by decide +kernel
theorem d_M_perform_127 : decode b_M_perform 127 = .ok (.iload 6, 2) := by decide +kernel
theorem d_M_perform_129 : decode b_M_perform 129 = .ok (.bipush 31, 2) := by decide +kernel
theorem d_M_perform_131 : decode b_M_perform 131 = .ok (.iand, 1) := by decide +kernel
theorem d_M_perform_132 : decode b_M_perform 132 = .ok (.iaload, 1) := by decide +kernel
theorem d_M_perform_133 : decode b_M_perform 133 = .ok (.iastore, 1) := by decide +kernel
theorem d_M_perform_134 : decode b_M_perform 134 = .ok (.goto 127, 3) := by decide +kernel
theorem d_M_perform_137 : decode b_M_perform 137 = .ok (.aload_n 0, 1) := by decide +kernel
theorem d_M_perform_138 : decode b_M_perform 138 = .ok (.getfield 15, 3) := by decide +kernel
theorem d_M_perform_141 : decode b_M_perform 141 = .ok (.iload 6, 2) := by decide +kernel
theorem d_M_perform_143 : decode b_M_perform 143 = .ok (.bipush 31, 2) := by decide +kernel
theorem d_M_perform_145 : decode b_M_perform 145 = .ok (.iand, 1) := by decide +kernel
theorem d_M_perform_146 : decode b_M_perform 146 = .ok (.aload_n 0, 1) := by decide +kernel
theorem d_M_perform_147 : decode b_M_perform 147 = .ok (.getfield 9, 3) := by decide +kernel
theorem d_M_perform_150 : decode b_M_perform 150 = .ok (.iload 5, 2) := by decide +kernel
theorem d_M_perform_152 : decode b_M_perform 152 = .ok (.iaload, 1) := by decide +kernel
theorem d_M_perform_153 : decode b_M_perform 153 = .ok (.iastore, 1) := by decide +kernel
theorem d_M_perform_154 : decode b_M_perform 154 = .ok (.goto 107, 3) := by decide +kernel
theorem d_M_perform_157 : decode b_M_perform 157 = .ok (.aload_n 0, 1) := by decide +kernel
theorem d_M_perform_158 : decode b_M_perform 158 = .ok (.getfield 9, 3) := by decide +kernel
theorem d_M_perform_161 : decode b_M_perform 161 = .ok (.iload 5, 2) := by decide +kernel
theorem d_M_perform_163 : decode b_M_perform 163 = .ok (.aload 4, 2) := by decide +kernel
theorem d_M_perform_165 : decode b_M_perform 165 = .ok (.aload_n 0, 1) := by decide +kernel
theorem d_M_perform_166 : decode b_M_perform 166 = .ok (.getfield 47, 3) := by decide +kernel
theorem d_M_perform_169 : decode b_M_perform 169 = .ok (.invokevirtual 77, 3) := by decide +kernel
theorem d_M_perform_172 : decode b_M_perform 172 = .ok (.iastore, 1) := by decide +kernel
theorem d_M_perform_173 : decode b_M_perform 173 = .ok (.goto 88, 3) := by decide +kernel
theorem d_M_perform_176 : decode b_M_perform 176 = .ok (.aload_n 0, 1) := by decide +kernel
theorem d_M_perform_177 : decode b_M_perform 177 = .ok (.getfield 9, 3) := by decide +kernel
theorem d_M_perform_180 : decode b_M_perform 180 = .ok (.iload 5, 2) := by decide +kernel
theorem d_M_perform_182 : decode b_M_perform 182 = .ok (.aload 4, 2) := by decide +kernel
theorem d_M_perform_184 : decode b_M_perform 184 = .ok (.aload_n 0, 1) := by decide +kernel
theorem d_M_perform_185 : decode b_M_perform 185 = .ok (.getfield 47, 3) := by decide +kernel
theorem d_M_perform_188 : decode b_M_perform 188 = .ok (.invokevirtual 81, 3) := by decide +kernel
theorem d_M_perform_191 : decode b_M_perform 191 = .ok (.iastore, 1) := by decide +kernel
theorem d_M_perform_192 : decode b_M_perform 192 = .ok (.goto 69, 3) := by decide +kernel
theorem d_M_perform_195 : decode b_M_perform 195 = .ok (.aload_n 0, 1) := by decide +kernel
theorem d_M_perform_196 : decode b_M_perform 196 = .ok (.aload_n 0, 1) := by decide +kernel
theorem d_M_perform_197 : decode b_M_perform 197 = .ok (.getfield 18, 3) := by decide +kernel
theorem d_M_perform_200 : decode b_M_perform 200 = .ok (.ldc 84, 2) := by decide +kernel
theorem d_M_perform_202 : decode b_M_perform 202 = .ok (.imul, 1) := by decide +kernel
theorem d_M_perform_203 : decode b_M_perform 203 = .ok (.sipush 12345, 3) := by decide +kernel
theorem d_M_perform_206 : decode b_M_perform 206 = .ok (.iadd, 1) := by decide +kernel
theorem d_M_perform_207 : decode b_M_perform 207 = .ok (.putfield 18, 3) := by decide +kernel
theorem d_M_perform_210 : decode b_M_perform 210 = .ok (.aload_n 0, 1) := by decide +kernel
theorem d_M_perform_211 : decode b_M_perform 211 = .ok (.getfield 9, 3) := by decide +kernel
theorem d_M_perform_214 : decode b_M_perform 214 = .ok (.iload 5, 2) := by decide +kernel
theorem d_M_perform_216 : decode b_M_perform 216 = .ok (.aload_n 0, 1) := by decide +kernel
theorem d_M_perform_217 : decode b_M_perform 217 = .ok (.getfield 18, 3) := by decide +kernel
theorem d_M_perform_220 : decode b_M_perform 220 = .ok (.bipush 16, 2) := by decide +kernel
theorem d_M_perform_222 : decode b_M_perform 222 = .ok (.iushr, 1) := by decide +kernel
theorem d_M_perform_223 : decode b_M_perform 223 = .ok (.iastore, 1) := by decide +kernel
theorem d_M_perform_224 : decode b_M_perform 224 = .ok (.goto 37, 3) := by decide +kernel
theorem d_M_perform_227 : decode b_M_perform 227 = .ok (.aload_n 0, 1) := by decide +kernel
theorem d_M_perform_228 : decode b_M_perform 228 = .ok (.aload_n 0, 1) := by decide +kernel
theorem d_M_perform_229 : decode b_M_perform 229 = .ok (.getfield 41, 3) := by decide +kernel
theorem d_M_perform_232 : decode b_M_perform 232 = .ok (.aload_n 0, 1) := by decide +kernel
theorem d_M_perform_233 : decode b_M_perform 233 = .ok (.getfield 9, 3) := by decide +kernel
theorem d_M_perform_236 : decode b_M_perform 236 = .ok (.iload 5, 2) := by decide +kernel
theorem d_M_perform_238 : decode b_M_perform 238 = .ok (.iaload, 1) := by decide +kernel
theorem d_M_perform_239 : decode b_M_perform 239 = .ok (.invokestatic 85, 3) := by decide +kernel
theorem d_M_perform_242 : decode b_M_perform 242 = .ok (.putfield 41, 3) := by decide +kernel
theorem d_M_perform_245 : decode b_M_perform 245 = .ok (.goto 16, 3) := by decide +kernel
theorem d_M_perform_248 : decode b_M_perform 248 = .ok (.aload_n 0, 1) := by decide +kernel
theorem d_M_perform_249 : decode b_M_perform 249 = .ok (.iload_n 1, 1) := by decide +kernel
theorem d_M_perform_250 : decode b_M_perform 250 = .ok (.aload_n 0, 1) := by decide +kernel
theorem d_M_perform_251 : decode b_M_perform 251 = .ok (.getfield 9, 3) := by decide +kernel
theorem d_M_perform_254 : decode b_M_perform 254 = .ok (.iload 5, 2) := by decide +kernel
theorem d_M_perform_256 : decode b_M_perform 256 = .ok (.iaload, 1) := by decide +kernel
theorem d_M_perform_257 : decode b_M_perform 257 = .ok (.iload_n 3, 1) := by decide +kernel
theorem d_M_perform_258 : decode b_M_perform 258 = .ok (.invokevirtual 89, 3) := by decide +kernel
theorem d_M_perform_261 : decode b_M_perform 261 = .ok (.return_, 1) := by decide +kernel
theorem d_R_takeInput_0 : decode b_R_takeInput 0 = .ok (.aload_n 0, 1) := by decide +kernel
theorem d_R_takeInput_1 : decode b_R_takeInput 1 = .ok (.getfield 19, 3) := by decide +kernel
theorem d_R_takeInput_4 : decode b_R_takeInput 4 = .ok (.ifCond .ne 5, 3) := by decide +kernel
theorem d_R_takeInput_7 : decode b_R_takeInput 7 = .ok (.iconst 0, 1) := by decide +kernel
theorem d_R_takeInput_8 : decode b_R_takeInput 8 = .ok (.ireturn, 1) := by decide +kernel
theorem d_R_takeInput_9 : decode b_R_takeInput 9 = .ok (.aload_n 0, 1) := by decide +kernel
theorem d_R_takeInput_10 : decode b_R_takeInput 10 = .ok (.getfield 9, 3) := by decide +kernel
theorem d_R_takeInput_13 : decode b_R_takeInput 13 = .ok (.iconst 0, 1) := by decide +kernel
theorem d_R_takeInput_14 : decode b_R_takeInput 14 = .ok (.iaload, 1) := by decide +kernel
theorem d_R_takeInput_15 : decode b_R_takeInput 15 = .ok (.istore_n 2, 1) := by decide +kernel
theorem d_R_takeInput_16 : decode b_R_takeInput 16 = .ok (.aload_n 0, 1) := by decide +kernel
theorem d_R_takeInput_17 : decode b_R_takeInput 17 = .ok (.dup, 1) := by decide +kernel
theorem d_R_takeInput_18 : decode b_R_takeInput 18 = .ok (.getfield 19, 3) := by decide +kernel
theorem d_R_takeInput_21 : decode b_R_takeInput 21 = .ok (.iconst 1, 1) := by decide +kernel
theorem d_R_takeInput_22 : decode b_R_takeInput 22 = .ok (.isub, 1) := by decide +kernel
theorem d_R_takeInput_23 : decode b_R_takeInput 23 = .ok (.putfield 19, 3) := by decide +kernel
theorem d_R_takeInput_26 : decode b_R_takeInput 26 = .ok (.aload_n 0, 1) := by decide +kernel
theorem d_R_takeInput_27 : decode b_R_takeInput 27 = .ok (.getfield 9, 3) := by decide +kernel
theorem d_R_takeInput_30 : decode b_R_takeInput 30 = .ok (.iconst 1, 1) := by decide +kernel
theorem d_R_takeInput_31 : decode b_R_takeInput 31 = .ok (.aload_n 0, 1) := by decide +kernel
theorem d_R_takeInput_32 : decode b_R_takeInput 32 = .ok (.getfield 9, 3) := by decide +kernel
theorem d_R_takeInput_35 : decode b_R_takeInput 35 = .ok (.iconst 0, 1) := by decide +kernel
theorem d_R_takeInput_36 : decode b_R_takeInput 36 = .ok (.aload_n 0, 1) := by decide +kernel
theorem d_R_takeInput_37 : decode b_R_takeInput 37 = .ok (.getfield 19, 3) := by decide +kernel
theorem d_R_takeInput_40 : decode b_R_takeInput 40 = .ok (.invokestatic 39, 3) := by decide +kernel
theorem d_R_takeInput_43 : decode b_R_takeInput 43 = .ok (.aload_n 0, 1) := by decide +kernel
theorem d_R_takeInput_44 : decode b_R_takeInput 44 = .ok (.getfield 15, 3) := by decide +kernel
theorem d_R_takeInput_47 : decode b_R_takeInput 47 = .ok (.iload_n 1, 1) := by decide +kernel
theorem d_R_takeInput_48 : decode b_R_takeInput 48 = .ok (.iconst 1, 1) := by decide +kernel
theorem d_R_takeInput_49 : decode b_R_takeInput 49 = .ok (.invokevirtual 33, 3) := by decide +kernel
theorem d_R_takeInput_52 : decode b_R_takeInput 52 = .ok (.aload_n 0, 1) := by decide +kernel
theorem d_R_takeInput_53 : decode b_R_takeInput 53 = .ok (.getfield 15, 3) := by decide +kernel
theorem d_R_takeInput_56 : decode b_R_takeInput 56 = .ok (.iload_n 2, 1) := by decide +kernel
theorem d_R_takeInput_57 : decode b_R_takeInput 57 = .ok (.ifCond .lt 9, 3) := by decide +kernel
theorem d_R_takeInput_60 : decode b_R_takeInput 60 = .ok (.iconst 2, 1) := by decide +kernel
theorem d_R_takeInput_61 : decode b_R_takeInput 61 = .ok (.iload_n 2, 1) := by decide +kernel
theorem d_R_takeInput_62 : decode b_R_takeInput 62 = .ok (.imul, 1) := by decide +kernel
theorem d_R_takeInput_63 : decode b_R_takeInput 63 = .ok (.goto 9, 3) := by decide +kernel
theorem d_R_takeInput_66 : decode b_R_takeInput 66 = .ok (.bipush (-2), 2) := by decide +kernel
theorem d_R_takeInput_68 : decode b_R_takeInput 68 = .ok (.iload_n 2, 1) := by decide +kernel
theorem d_R_takeInput_69 : decode b_R_takeInput 69 = .ok (.imul, 1) := by decide +kernel
theorem d_R_takeInput_70 : decode b_R_takeInput 70 = .ok (.iconst 1, 1) := by decide +kernel
theorem d_R_takeInput_71 : decode b_R_takeInput 71 = .ok (.isub, 1) := by decide +kernel
theorem d_R_takeInput_72 : decode b_R_takeInput 72 = .ok (.invokevirtual 45, 3) := by decide +kernel
theorem d_R_takeInput_75 : decode b_R_takeInput 75 = .ok (.iload_n 2, 1) := by decide +kernel
theorem d_R_takeInput_76 : decode b_R_takeInput 76 = .ok (.ireturn, 1) := by decide +kernel
theorem d_T_takeInput_0 : decode b_T_takeInput 0 = .ok (.aload_n 0, 1) := by decide +kernel
theorem d_T_takeInput_1 : decode b_T_takeInput 1 = .ok (.iload_n 1, 1) := by decide +kernel
theorem d_T_takeInput_2 : decode b_T_takeInput 2 = .ok (.iconst 1, 1) := by decide +kernel
theorem d_T_takeInput_3 : decode b_T_takeInput 3 = .ok (.invokevirtual 34, 3) := by decide +kernel
theorem d_T_takeInput_6 : decode b_T_takeInput 6 = .ok (.ifCond .ne 5, 3) := by decide +kernel
theorem d_T_takeInput_9 : decode b_T_takeInput 9 = .ok (.iconst 0, 1) := by decide +kernel
theorem d_T_takeInput_10 : decode b_T_takeInput 10 = .ok (.ireturn, 1) := by decide +kernel
theorem d_T_takeInput_11 : decode b_T_takeInput 11 = .ok (.aload_n 0, 1) := by decide +kernel
theorem d_T_takeInput_12 : decode b_T_takeInput 12 = .ok (.getfield 9, 3) := by decide +kernel
theorem d_T_takeInput_15 : decode b_T_takeInput 15 = .ok (.getfield 38, 3) := by decide +kernel
theorem d_T_takeInput_18 : decode b_T_takeInput 18 = .ok (.istore_n 2, 1) := by decide +kernel
theorem d_T_takeInput_19 : decode b_T_takeInput 19 = .ok (.iload_n 2, 1) := by decide +kernel
theorem d_T_takeInput_20 : decode b_T_takeInput 20 = .ok (.iconst 1, 1) := by decide +kernel
theorem d_T_takeInput_21 : decode b_T_takeInput 21 = .ok (.iand, 1) := by decide +kernel
theorem d_T_takeInput_22 : decode b_T_takeInput 22 = .ok (.ifCond .ne 9, 3) := by decide +kernel
theorem d_T_takeInput_25 : decode b_T_takeInput 25 = .ok (.iload_n 2, 1) := by decide +kernel
theorem d_T_takeInput_26 : decode b_T_takeInput 26 = .ok (.iconst 1, 1) := by decide +kernel
theorem d_T_takeInput_27 : decode b_T_takeInput 27 = .ok (.iushr, 1) := by decide +kernel
theorem d_T_takeInput_28 : decode b_T_takeInput 28 = .ok (.goto 9, 3) := by decide +kernel
theorem d_T_takeInput_31 : decode b_T_takeInput 31 = .ok (.iload_n 2, 1) := by decide +kernel
theorem d_T_takeInput_32 : decode b_T_takeInput 32 = .ok (.iconst 1, 1) := by decide +kernel
theorem d_T_takeInput_33 : decode b_T_takeInput 33 = .ok (.iushr, 1) := by decide +kernel
theorem d_T_takeInput_34 : decode b_T_takeInput 34 = .ok (.ineg, 1) := by decide +kernel
theorem d_T_takeInput_35 : decode b_T_takeInput 35 = .ok (.iconst 1, 1) := by decide +kernel
theorem d_T_takeInput_36 : decode b_T_takeInput 36 = .ok (.isub, 1) := by decide +kernel
theorem d_T_takeInput_37 : decode b_T_takeInput 37 = .ok (.ireturn, 1) := by decide +kernel
theorem d_R_readClock_0 : decode b_R_readClock 0 = .ok (.aload_n 0, 1) := by decide +kernel
theorem d_R_readClock_1 : decode b_R_readClock 1 = .ok (.getfield 30, 3) := by decide +kernel
theorem d_R_readClock_4 : decode b_R_readClock 4 = .ok (.aload_n 0, 1) := by decide +kernel
theorem d_R_readClock_5 : decode b_R_readClock 5 = .ok (.getfield 23, 3) := by decide +kernel
theorem d_R_readClock_8 : decode b_R_readClock 8 = .ok (.if_icmp .eq 36, 3) := by decide +kernel
theorem d_R_readClock_11 : decode b_R_readClock 11 = .ok (.aload_n 0, 1) := by decide +kernel
theorem d_R_readClock_12 : decode b_R_readClock 12 = .ok (.getfield 15, 3) := by decide +kernel
theorem d_R_readClock_15 : decode b_R_readClock 15 = .ok (.iload_n 1, 1) := by decide +kernel
theorem d_R_readClock_16 : decode b_R_readClock 16 = .ok (.iconst 2, 1) := by decide +kernel
theorem d_R_readClock_17 : decode b_R_readClock 17 = .ok (.invokevirtual 33, 3) := by decide +kernel
theorem d_R_readClock_20 : decode b_R_readClock 20 = .ok (.aload_n 0, 1) := by decide +kernel
theorem d_R_readClock_21 : decode b_R_readClock 21 = .ok (.getfield 15, 3) := by decide +kernel
theorem d_R_readClock_24 : decode b_R_readClock 24 = .ok (.aload_n 0, 1) := by decide +kernel
theorem d_R_readClock_25 : decode b_R_readClock 25 = .ok (.getfield 30, 3) := by decide +kernel
theorem d_R_readClock_28 : decode b_R_readClock 28 = .ok (.aload_n 0, 1) := by decide +kernel
theorem d_R_readClock_29 : decode b_R_readClock 29 = .ok (.getfield 23, 3) := by decide +kernel
theorem d_R_readClock_32 : decode b_R_readClock 32 = .ok (.isub, 1) := by decide +kernel
theorem d_R_readClock_33 : decode b_R_readClock 33 = .ok (.invokevirtual 45, 3) := by decide +kernel
theorem d_R_readClock_36 : decode b_R_readClock 36 = .ok (.aload_n 0, 1) := by decide +kernel
theorem d_R_readClock_37 : decode b_R_readClock 37 = .ok (.aload_n 0, 1) := by decide +kernel
theorem d_R_readClock_38 : decode b_R_readClock 38 = .ok (.getfield 30, 3) := by decide +kernel
theorem d_R_readClock_41 : decode b_R_readClock 41 = .ok (.putfield 23, 3) := by decide +kernel
theorem d_R_readClock_44 : decode b_R_readClock 44 = .ok (.aload_n 0, 1) := by decide +kernel
theorem d_R_readClock_45 : decode b_R_readClock 45 = .ok (.getfield 30, 3) := by decide +kernel
theorem d_R_readClock_48 : decode b_R_readClock 48 = .ok (.ireturn, 1) := by decide +kernel
theorem d_T_readClock_0 : decode b_T_readClock 0 = .ok (.aload_n 0, 1) := by decide +kernel
theorem d_T_readClock_1 : decode b_T_readClock 1 = .ok (.iload_n 1, 1) := by decide +kernel
theorem d_T_readClock_2 : decode b_T_readClock 2 = .ok (.iconst 2, 1) := by decide +kernel
theorem d_T_readClock_3 : decode b_T_readClock 3 = .ok (.invokevirtual 34, 3) := by decide +kernel
theorem d_T_readClock_6 : decode b_T_readClock 6 = .ok (.ifCond .eq 19, 3) := by decide +kernel
theorem d_T_readClock_9 : decode b_T_readClock 9 = .ok (.aload_n 0, 1) := by decide +kernel
theorem d_T_readClock_10 : decode b_T_readClock 10 = .ok (.dup, 1) := by decide +kernel
theorem d_T_readClock_11 : decode b_T_readClock 11 = .ok (.getfield 30, 3) := by decide +kernel
theorem d_T_readClock_14 : decode b_T_readClock 14 = .ok (.aload_n 0, 1) := by decide +kernel
theorem d_T_readClock_15 : decode b_T_readClock 15 = .ok (.getfield 9, 3) := by decide +kernel
theorem d_T_readClock_18 : decode b_T_readClock 18 = .ok (.getfield 38, 3) := by decide +kernel
theorem d_T_readClock_21 : decode b_T_readClock 21 = .ok (.iadd, 1) := by decide +kernel
theorem d_T_readClock_22 : decode b_T_readClock 22 = .ok (.putfield 30, 3) := by decide +kernel
theorem d_T_readClock_25 : decode b_T_readClock 25 = .ok (.aload_n 0, 1) := by decide +kernel
theorem d_T_readClock_26 : decode b_T_readClock 26 = .ok (.getfield 30, 3) := by decide +kernel
theorem d_T_readClock_29 : decode b_T_readClock 29 = .ok (.ireturn, 1) := by decide +kernel
theorem d_M_turn_0 : decode b_M_turn 0 = .ok (.iload_n 1, 1) := by decide +kernel
theorem d_M_turn_1 : decode b_M_turn 1 = .ok (.lookupswitch 78 #[(5, 35), (6, 43), (11, 55)], 35) := by decide +kernel
theorem d_M_turn_36 : decode b_M_turn 36 = .ok (.aload_n 0, 1) := by decide +kernel
theorem d_M_turn_37 : decode b_M_turn 37 = .ok (.iload_n 3, 1) := by decide +kernel
theorem d_M_turn_38 : decode b_M_turn 38 = .ok (.putfield 28, 3) := by decide +kernel
theorem d_M_turn_41 : decode b_M_turn 41 = .ok (.goto 43, 3) := by decide +kernel
theorem d_M_turn_44 : decode b_M_turn 44 = .ok (.iload_n 2, 1) := by decide +kernel
theorem d_M_turn_45 : decode b_M_turn 45 = .ok (.ifCond .ne 39, 3) := by decide +kernel
theorem d_M_turn_48 : decode b_M_turn 48 = .ok (.aload_n 0, 1) := by decide +kernel
theorem d_M_turn_49 : decode b_M_turn 49 = .ok (.iload_n 3, 1) := by decide +kernel
theorem d_M_turn_50 : decode b_M_turn 50 = .ok (.putfield 28, 3) := by decide +kernel
theorem d_M_turn_53 : decode b_M_turn 53 = .ok (.goto 31, 3) := by decide +kernel
theorem d_M_turn_56 : decode b_M_turn 56 = .ok (.aload_n 0, 1) := by decide +kernel
theorem d_M_turn_57 : decode b_M_turn 57 = .ok (.getfield 34, 3) := by decide +kernel
theorem d_M_turn_60 : decode b_M_turn 60 = .ok (.ifCond .eq 24, 3) := by decide +kernel
theorem d_M_turn_63 : decode b_M_turn 63 = .ok (.aload_n 0, 1) := by decide +kernel
theorem d_M_turn_64 : decode b_M_turn 64 = .ok (.aload_n 0, 1) := by decide +kernel
theorem d_M_turn_65 : decode b_M_turn 65 = .ok (.getfield 31, 3) := by decide +kernel
theorem d_M_turn_68 : decode b_M_turn 68 = .ok (.putfield 28, 3) := by decide +kernel
theorem d_M_turn_71 : decode b_M_turn 71 = .ok (.aload_n 0, 1) := by decide +kernel
theorem d_M_turn_72 : decode b_M_turn 72 = .ok (.iconst 0, 1) := by decide +kernel
theorem d_M_turn_73 : decode b_M_turn 73 = .ok (.putfield 34, 3) := by decide +kernel
theorem d_M_turn_76 : decode b_M_turn 76 = .ok (.goto 8, 3) := by decide +kernel
theorem d_M_turn_79 : decode b_M_turn 79 = .ok (.aload_n 0, 1) := by decide +kernel
theorem d_M_turn_80 : decode b_M_turn 80 = .ok (.iconst 1, 1) := by decide +kernel
theorem d_M_turn_81 : decode b_M_turn 81 = .ok (.putfield 38, 3) := by decide +kernel
theorem d_M_turn_84 : decode b_M_turn 84 = .ok (.return_, 1) := by decide +kernel
theorem d_M_followTrace_0 : decode b_M_followTrace 0 = .ok (.aload_n 0, 1) := by decide +kernel
theorem d_M_followTrace_1 : decode b_M_followTrace 1 = .ok (.getfield 44, 3) := by decide +kernel
theorem d_M_followTrace_4 : decode b_M_followTrace 4 = .ok (.aload_n 0, 1) := by decide +kernel
theorem d_M_followTrace_5 : decode b_M_followTrace 5 = .ok (.getfield 28, 3) := by decide +kernel
theorem d_M_followTrace_8 : decode b_M_followTrace 8 = .ok (.invokestatic 85, 3) := by decide +kernel
theorem d_M_followTrace_11 : decode b_M_followTrace 11 = .ok (.istore_n 1, 1) := by decide +kernel
theorem d_M_followTrace_12 : decode b_M_followTrace 12 = .ok (.iconst 0, 1) := by decide +kernel
theorem d_M_followTrace_13 : decode b_M_followTrace 13 = .ok (.istore_n 2, 1) := by decide +kernel
theorem d_M_followTrace_14 : decode b_M_followTrace 14 = .ok (.iload_n 2, 1) := by decide +kernel
theorem d_M_followTrace_15 : decode b_M_followTrace 15 = .ok (.iconst 4, 1) := by decide +kernel
theorem d_M_followTrace_16 : decode b_M_followTrace 16 = .ok (.if_icmp .ge 20, 3) := by decide +kernel
theorem d_M_followTrace_19 : decode b_M_followTrace 19 = .ok (.iload_n 1, 1) := by decide +kernel
theorem d_M_followTrace_20 : decode b_M_followTrace 20 = .ok (.aload_n 0, 1) := by decide +kernel
theorem d_M_followTrace_21 : decode b_M_followTrace 21 = .ok (.getfield 9, 3) := by decide +kernel
theorem d_M_followTrace_24 : decode b_M_followTrace 24 = .ok (.iload_n 2, 1) := by decide +kernel
theorem d_M_followTrace_25 : decode b_M_followTrace 25 = .ok (.iaload, 1) := by decide +kernel
theorem d_M_followTrace_26 : decode b_M_followTrace 26 = .ok (.invokestatic 85, 3) := by decide +kernel
theorem d_M_followTrace_29 : decode b_M_followTrace 29 = .ok (.istore_n 1, 1) := by decide +kernel
theorem d_M_followTrace_30 : decode b_M_followTrace 30 = .ok (.iinc 2 1, 3) := by decide +kernel
theorem d_M_followTrace_33 : decode b_M_followTrace 33 = .ok (.goto (-19), 3) := by decide +kernel
theorem d_M_followTrace_36 : decode b_M_followTrace 36 = .ok (.aload_n 0, 1) := by decide +kernel
theorem d_M_followTrace_37 : decode b_M_followTrace 37 = .ok (.iload_n 1, 1) := by decide +kernel
theorem d_M_followTrace_38 : decode b_M_followTrace 38 = .ok (.aload_n 0, 1) := by decide +kernel
theorem d_M_followTrace_39 : decode b_M_followTrace 39 = .ok (.getfield 41, 3) := by decide +kernel
theorem d_M_followTrace_42 : decode b_M_followTrace 42 = .ok (.invokestatic 85, 3) := by decide +kernel
theorem d_M_followTrace_45 : decode b_M_followTrace 45 = .ok (.putfield 44, 3) := by decide +kernel
theorem d_M_followTrace_48 : decode b_M_followTrace 48 = .ok (.return_, 1) := by decide +kernel
theorem d_X_log_0 : decode b_X_log 0 = .ok (.aload_n 0, 1) := by decide +kernel
theorem d_X_log_1 : decode b_X_log 1 = .ok (.getfield 23, 3) := by decide +kernel
theorem d_X_log_4 : decode b_X_log 4 = .ok (.getfield 92, 3) := by decide +kernel
theorem d_X_log_7 : decode b_X_log 7 = .ok (.ireturn, 1) := by decide +kernel
theorem d_X_at_0 : decode b_X_at 0 = .ok (.aload_n 0, 1) := by decide +kernel
theorem d_X_at_1 : decode b_X_at 1 = .ok (.getfield 23, 3) := by decide +kernel
theorem d_X_at_4 : decode b_X_at 4 = .ok (.iload_n 1, 1) := by decide +kernel
theorem d_X_at_5 : decode b_X_at 5 = .ok (.invokevirtual 97, 3) := by decide +kernel
theorem d_X_at_8 : decode b_X_at 8 = .ok (.ifCond .eq 15, 3) := by decide +kernel
theorem d_X_at_11 : decode b_X_at 11 = .ok (.aload_n 0, 1) := by decide +kernel
theorem d_X_at_12 : decode b_X_at 12 = .ok (.getfield 23, 3) := by decide +kernel
theorem d_X_at_15 : decode b_X_at 15 = .ok (.getfield 101, 3) := by decide +kernel
theorem d_X_at_18 : decode b_X_at 18 = .ok (.iload_n 1, 1) := by decide +kernel
theorem d_X_at_19 : decode b_X_at 19 = .ok (.iaload, 1) := by decide +kernel
theorem d_X_at_20 : decode b_X_at 20 = .ok (.goto 4, 3) := by decide +kernel
theorem d_X_at_23 : decode b_X_at 23 = .ok (.iconst (-1), 1) := by decide +kernel
theorem d_X_at_24 : decode b_X_at 24 = .ok (.ireturn, 1) := by decide +kernel
theorem d_X_entries_0 : decode b_X_entries 0 = .ok (.aload_n 0, 1) := by decide +kernel
theorem d_X_entries_1 : decode b_X_entries 1 = .ok (.getfield 23, 3) := by decide +kernel
theorem d_X_entries_4 : decode b_X_entries 4 = .ok (.getfield 105, 3) := by decide +kernel
theorem d_X_entries_7 : decode b_X_entries 7 = .ok (.ireturn, 1) := by decide +kernel
theorem d_X_seal_0 : decode b_X_seal 0 = .ok (.aload_n 0, 1) := by decide +kernel
theorem d_X_seal_1 : decode b_X_seal 1 = .ok (.getfield 23, 3) := by decide +kernel
theorem d_X_seal_4 : decode b_X_seal 4 = .ok (.getfield 108, 3) := by decide +kernel
theorem d_X_seal_7 : decode b_X_seal 7 = .ok (.ireturn, 1) := by decide +kernel
theorem d_X_change_0 : decode b_X_change 0 = .ok (.aload_n 0, 1) := by decide +kernel
theorem d_X_change_1 : decode b_X_change 1 = .ok (.getfield 23, 3) := by decide +kernel
theorem d_X_change_4 : decode b_X_change 4 = .ok (.iload_n 1, 1) := by decide +kernel
theorem d_X_change_5 : decode b_X_change 5 = .ok (.invokevirtual 97, 3) := by decide +kernel
theorem d_X_change_8 : decode b_X_change 8 = .ok (.ifCond .eq 14, 3) := by decide +kernel
theorem d_X_change_11 : decode b_X_change 11 = .ok (.iload_n 2, 1) := by decide +kernel
theorem d_X_change_12 : decode b_X_change 12 = .ok (.ifCond .lt 10, 3) := by decide +kernel
theorem d_X_change_15 : decode b_X_change 15 = .ok (.iload_n 2, 1) := by decide +kernel
theorem d_X_change_16 : decode b_X_change 16 = .ok (.sipush 255, 3) := by decide +kernel
theorem d_X_change_19 : decode b_X_change 19 = .ok (.if_icmp .le 5, 3) := by decide +kernel
theorem d_X_change_22 : decode b_X_change 22 = .ok (.iconst 0, 1) := by decide +kernel
theorem d_X_change_23 : decode b_X_change 23 = .ok (.ireturn, 1) := by decide +kernel
theorem d_X_change_24 : decode b_X_change 24 = .ok (.aload_n 0, 1) := by decide +kernel
theorem d_X_change_25 : decode b_X_change 25 = .ok (.getfield 23, 3) := by decide +kernel
theorem d_X_change_28 : decode b_X_change 28 = .ok (.getfield 101, 3) := by decide +kernel
theorem d_X_change_31 : decode b_X_change 31 = .ok (.iload_n 1, 1) := by decide +kernel
theorem d_X_change_32 : decode b_X_change 32 = .ok (.iload_n 2, 1) := by decide +kernel
theorem d_X_change_33 : decode b_X_change 33 = .ok (.iastore, 1) := by decide +kernel
theorem d_X_change_34 : decode b_X_change 34 = .ok (.iconst 1, 1) := by decide +kernel
theorem d_X_change_35 : decode b_X_change 35 = .ok (.ireturn, 1) := by decide +kernel
theorem d_X_tell_0 : decode b_X_tell 0 = .ok (.iload_n 2, 1) := by decide +kernel
theorem d_X_tell_1 : decode b_X_tell 1 = .ok (.aload_n 0, 1) := by decide +kernel
theorem d_X_tell_2 : decode b_X_tell 2 = .ok (.getfield 23, 3) := by decide +kernel
theorem d_X_tell_5 : decode b_X_tell 5 = .ok (.getfield 92, 3) := by decide +kernel
theorem d_X_tell_8 : decode b_X_tell 8 = .ok (.if_icmp .ne 14, 3) := by decide +kernel
theorem d_X_tell_11 : decode b_X_tell 11 = .ok (.iload_n 1, 1) := by decide +kernel
theorem d_X_tell_12 : decode b_X_tell 12 = .ok (.aload_n 0, 1) := by decide +kernel
theorem d_X_tell_13 : decode b_X_tell 13 = .ok (.getfield 23, 3) := by decide +kernel
theorem d_X_tell_16 : decode b_X_tell 16 = .ok (.invokevirtual 111, 3) := by decide +kernel
theorem d_X_tell_19 : decode b_X_tell 19 = .ok (.if_icmp .eq 5, 3) := by decide +kernel
theorem d_X_tell_22 : decode b_X_tell 22 = .ok (.iconst (-1), 1) := by decide +kernel
theorem d_X_tell_23 : decode b_X_tell 23 = .ok (.ireturn, 1) := by decide +kernel
theorem d_X_tell_24 : decode b_X_tell 24 = .ok (.aload_n 0, 1) := by decide +kernel
theorem d_X_tell_25 : decode b_X_tell 25 = .ok (.getfield 44, 3) := by decide +kernel
theorem d_X_tell_28 : decode b_X_tell 28 = .ok (.invokevirtual 115, 3) := by decide +kernel
theorem d_X_tell_31 : decode b_X_tell 31 = .ok (.ifCond .ne 6, 3) := by decide +kernel
theorem d_X_tell_34 : decode b_X_tell 34 = .ok (.bipush (-2), 2) := by decide +kernel
theorem d_X_tell_36 : decode b_X_tell 36 = .ok (.ireturn, 1) := by decide +kernel
theorem d_X_tell_37 : decode b_X_tell 37 = .ok (.aload_n 0, 1) := by decide +kernel
theorem d_X_tell_38 : decode b_X_tell 38 = .ok (.getfield 57, 3) := by decide +kernel
theorem d_X_tell_41 : decode b_X_tell 41 = .ok (.aload_n 0, 1) := by decide +kernel
theorem d_X_tell_42 : decode b_X_tell 42 = .ok (.getfield 7, 3) := by decide +kernel
theorem d_X_tell_45 : decode b_X_tell 45 = .ok (.invokevirtual 75, 3) := by decide +kernel
theorem d_X_tell_48 : decode b_X_tell 48 = .ok (.aload_n 0, 1) := by decide +kernel
theorem d_X_tell_49 : decode b_X_tell 49 = .ok (.getfield 44, 3) := by decide +kernel
theorem d_X_tell_52 : decode b_X_tell 52 = .ok (.invokevirtual 119, 3) := by decide +kernel
theorem d_X_tell_55 : decode b_X_tell 55 = .ok (.iconst 0, 1) := by decide +kernel
theorem d_X_tell_56 : decode b_X_tell 56 = .ok (.istore_n 3, 1) := by decide +kernel
theorem d_X_tell_57 : decode b_X_tell 57 = .ok (.iload_n 3, 1) := by decide +kernel
theorem d_X_tell_58 : decode b_X_tell 58 = .ok (.aload_n 0, 1) := by decide +kernel
theorem d_X_tell_59 : decode b_X_tell 59 = .ok (.getfield 53, 3) := by decide +kernel
theorem d_X_tell_62 : decode b_X_tell 62 = .ok (.getfield 120, 3) := by decide +kernel
theorem d_X_tell_65 : decode b_X_tell 65 = .ok (.if_icmp .ge 30, 3) := by decide +kernel
theorem d_X_tell_68 : decode b_X_tell 68 = .ok (.aload_n 0, 1) := by decide +kernel
theorem d_X_tell_69 : decode b_X_tell 69 = .ok (.getfield 57, 3) := by decide +kernel
theorem d_X_tell_72 : decode b_X_tell 72 = .ok (.aload_n 0, 1) := by decide +kernel
theorem d_X_tell_73 : decode b_X_tell 73 = .ok (.getfield 16, 3) := by decide +kernel
theorem d_X_tell_76 : decode b_X_tell 76 = .ok (.aload_n 0, 1) := by decide +kernel
theorem d_X_tell_77 : decode b_X_tell 77 = .ok (.getfield 44, 3) := by decide +kernel
theorem d_X_tell_80 : decode b_X_tell 80 = .ok (.invokevirtual 93, 3) := by decide +kernel
theorem d_X_tell_83 : decode b_X_tell 83 = .ok (.ifCond .ne 6, 3) := by decide +kernel
theorem d_X_tell_86 : decode b_X_tell 86 = .ok (.goto 9, 3) := by decide +kernel
theorem d_X_tell_89 : decode b_X_tell 89 = .ok (.iinc 3 1, 3) := by decide +kernel
theorem d_X_tell_92 : decode b_X_tell 92 = .ok (.goto (-35), 3) := by decide +kernel
theorem d_X_tell_95 : decode b_X_tell 95 = .ok (.aload_n 0, 1) := by decide +kernel
theorem d_X_tell_96 : decode b_X_tell 96 = .ok (.getfield 57, 3) := by decide +kernel
theorem d_X_tell_99 : decode b_X_tell 99 = .ok (.aload_n 0, 1) := by decide +kernel
theorem d_X_tell_100 : decode b_X_tell 100 = .ok (.getfield 53, 3) := by decide +kernel
theorem d_X_tell_103 : decode b_X_tell 103 = .ok (.invokevirtual 123, 3) := by decide +kernel
theorem d_X_tell_106 : decode b_X_tell 106 = .ok (.ifCond .eq 7, 3) := by decide +kernel
theorem d_X_tell_109 : decode b_X_tell 109 = .ok (.iconst 1, 1) := by decide +kernel
theorem d_X_tell_110 : decode b_X_tell 110 = .ok (.goto 4, 3) := by decide +kernel
theorem d_X_tell_113 : decode b_X_tell 113 = .ok (.iconst 0, 1) := by decide +kernel
theorem d_X_tell_114 : decode b_X_tell 114 = .ok (.ireturn, 1) := by decide +kernel
