theorem d_Y_sealNow_0 : decode b_Y_sealNow 0 = .ok (.iconst 1, 1) := by decide +kernel
theorem d_Y_sealNow_1 : decode b_Y_sealNow 1 = .ok (.istore_n 1, 1) := by decide +kernel
theorem d_Y_sealNow_2 : decode b_Y_sealNow 2 = .ok (.iconst 0, 1) := by decide +kernel
theorem d_Y_sealNow_3 : decode b_Y_sealNow 3 = .ok (.istore_n 2, 1) := by decide +kernel
theorem d_Y_sealNow_4 : decode b_Y_sealNow 4 = .ok (.iload_n 2, 1) := by decide +kernel
theorem d_Y_sealNow_5 : decode b_Y_sealNow 5 = .ok (.aload_n 0, 1) := by decide +kernel
theorem d_Y_sealNow_6 : decode b_Y_sealNow 6 = .ok (.getfield 69, 3) := by decide +kernel
theorem d_Y_sealNow_9 : decode b_Y_sealNow 9 = .ok (.if_icmp .ge 20, 3) := by decide +kernel
theorem d_Y_sealNow_12 : decode b_Y_sealNow 12 = .ok (.iload_n 1, 1) := by decide +kernel
theorem d_Y_sealNow_13 : decode b_Y_sealNow 13 = .ok (.aload_n 0, 1) := by decide +kernel
theorem d_Y_sealNow_14 : decode b_Y_sealNow 14 = .ok (.getfield 25, 3) := by decide +kernel
theorem d_Y_sealNow_17 : decode b_Y_sealNow 17 = .ok (.iload_n 2, 1) := by decide +kernel
theorem d_Y_sealNow_18 : decode b_Y_sealNow 18 = .ok (.iaload, 1) := by decide +kernel
theorem d_Y_sealNow_19 : decode b_Y_sealNow 19 = .ok (.invokestatic 80, 3) := by decide +kernel
theorem d_Y_sealNow_22 : decode b_Y_sealNow 22 = .ok (.istore_n 1, 1) := by decide +kernel
theorem d_Y_sealNow_23 : decode b_Y_sealNow 23 = .ok (.iinc 2 1, 3) := by decide +kernel
theorem d_Y_sealNow_26 : decode b_Y_sealNow 26 = .ok (.goto (-22), 3) := by decide +kernel
theorem d_Y_sealNow_29 : decode b_Y_sealNow 29 = .ok (.iload_n 1, 1) := by decide +kernel
theorem d_Y_sealNow_30 : decode b_Y_sealNow 30 = .ok (.ireturn, 1) := by decide +kernel
theorem d_Y_readAll_0 : decode b_Y_readAll 0 = .ok (.aload_n 0, 1) := by decide +kernel
theorem d_Y_readAll_1 : decode b_Y_readAll 1 = .ok (.iconst 0, 1) := by decide +kernel
theorem d_Y_readAll_2 : decode b_Y_readAll 2 = .ok (.putfield 95, 3) := by decide +kernel
theorem d_Y_readAll_5 : decode b_Y_readAll 5 = .ok (.aload_n 0, 1) := by decide +kernel
theorem d_Y_readAll_6 : decode b_Y_readAll 6 = .ok (.iconst 0, 1) := by decide +kernel
theorem d_Y_readAll_7 : decode b_Y_readAll 7 = .ok (.putfield 134, 3) := by decide +kernel
theorem d_Y_readAll_10 : decode b_Y_readAll 10 = .ok (.lconst 0, 1) := by decide +kernel
theorem d_Y_readAll_11 : decode b_Y_readAll 11 = .ok (.lstore_n 1, 1) := by decide +kernel
theorem d_Y_readAll_12 : decode b_Y_readAll 12 = .ok (.aload_n 0, 1) := by decide +kernel
theorem d_Y_readAll_13 : decode b_Y_readAll 13 = .ok (.getfield 134, 3) := by decide +kernel
theorem d_Y_readAll_16 : decode b_Y_readAll 16 = .ok (.aload_n 0, 1) := by decide +kernel
theorem d_Y_readAll_17 : decode b_Y_readAll 17 = .ok (.getfield 69, 3) := by decide +kernel
theorem d_Y_readAll_20 : decode b_Y_readAll 20 = .ok (.if_icmp .ge 151, 3) := by decide +kernel
theorem d_Y_readAll_23 : decode b_Y_readAll 23 = .ok (.aload_n 0, 1) := by decide +kernel
theorem d_Y_readAll_24 : decode b_Y_readAll 24 = .ok (.invokevirtual 141, 3) := by decide +kernel
theorem d_Y_readAll_27 : decode b_Y_readAll 27 = .ok (.lstore_n 3, 1) := by decide +kernel
theorem d_Y_readAll_28 : decode b_Y_readAll 28 = .ok (.lload_n 3, 1) := by decide +kernel
theorem d_Y_readAll_29 : decode b_Y_readAll 29 = .ok (.ldc2_w 145, 3) := by decide +kernel
theorem d_Y_readAll_32 : decode b_Y_readAll 32 = .ok (.land, 1) := by decide +kernel
theorem d_Y_readAll_33 : decode b_Y_readAll 33 = .ok (.l2i, 1) := by decide +kernel
theorem d_Y_readAll_34 : decode b_Y_readAll 34 = .ok (.istore 5, 2) := by decide +kernel
theorem d_Y_readAll_36 : decode b_Y_readAll 36 = .ok (.lload_n 3, 1) := by decide +kernel
theorem d_Y_readAll_37 : decode b_Y_readAll 37 = .ok (.ldc2_w 89, 3) := by decide +kernel
theorem d_Y_readAll_40 : decode b_Y_readAll 40 = .ok (.lcmp, 1) := by decide +kernel
theorem d_Y_readAll_41 : decode b_Y_readAll 41 = .ok (.ifCond .lt 8, 3) := by decide +kernel
theorem d_Y_readAll_44 : decode b_Y_readAll 44 = .ok (.iload 5, 2) := by decide +kernel
theorem d_Y_readAll_46 : decode b_Y_readAll 46 = .ok (.ifCond .ne 5, 3) := by decide +kernel
theorem d_Y_readAll_49 : decode b_Y_readAll 49 = .ok (.iconst 0, 1) := by decide +kernel
theorem d_Y_readAll_50 : decode b_Y_readAll 50 = .ok (.ireturn, 1) := by decide +kernel
theorem d_Y_readAll_51 : decode b_Y_readAll 51 = .ok (.lload_n 1, 1) := by decide +kernel
theorem d_Y_readAll_52 : decode b_Y_readAll 52 = .ok (.lload_n 3, 1) := by decide +kernel
theorem d_Y_readAll_53 : decode b_Y_readAll 53 = .ok (.ldc2_w 89, 3) := by decide +kernel
theorem d_Y_readAll_56 : decode b_Y_readAll 56 = .ok (.ldiv, 1) := by decide +kernel
theorem d_Y_readAll_57 : decode b_Y_readAll 57 = .ok (.ladd, 1) := by decide +kernel
theorem d_Y_readAll_58 : decode b_Y_readAll 58 = .ok (.lstore_n 1, 1) := by decide +kernel
theorem d_Y_readAll_59 : decode b_Y_readAll 59 = .ok (.iload 5, 2) := by decide +kernel
theorem d_Y_readAll_61 : decode b_Y_readAll 61 = .ok (.iconst 3, 1) := by decide +kernel
theorem d_Y_readAll_62 : decode b_Y_readAll 62 = .ok (.if_icmp .ne 7, 3) := by decide +kernel
theorem d_Y_readAll_65 : decode b_Y_readAll 65 = .ok (.lconst 0, 1) := by decide +kernel
theorem d_Y_readAll_66 : decode b_Y_readAll 66 = .ok (.goto 7, 3) := by decide +kernel
theorem d_Y_readAll_69 : decode b_Y_readAll 69 = .ok (.aload_n 0, 1) := by decide +kernel
theorem d_Y_readAll_70 : decode b_Y_readAll 70 = .ok (.invokevirtual 141, 3) := by decide +kernel
theorem d_Y_readAll_73 : decode b_Y_readAll 73 = .ok (.lstore 6, 2) := by decide +kernel
theorem d_Y_readAll_75 : decode b_Y_readAll 75 = .ok (.lload 6, 2) := by decide +kernel
theorem d_Y_readAll_77 : decode b_Y_readAll 77 = .ok (.lconst 0, 1) := by decide +kernel
theorem d_Y_readAll_78 : decode b_Y_readAll 78 = .ok (.lcmp, 1) := by decide +kernel
theorem d_Y_readAll_79 : decode b_Y_readAll 79 = .ok (.ifCond .ge 5, 3) := by decide +kernel
theorem d_Y_readAll_82 : decode b_Y_readAll 82 = .ok (.iconst 0, 1) := by decide +kernel
theorem d_Y_readAll_83 : decode b_Y_readAll 83 = .ok (.ireturn, 1) := by decide +kernel
theorem d_Y_readAll_84 : decode b_Y_readAll 84 = .ok (.aload_n 0, 1) := by decide +kernel
theorem d_Y_readAll_85 : decode b_Y_readAll 85 = .ok (.getfield 32, 3) := by decide +kernel
theorem d_Y_readAll_88 : decode b_Y_readAll 88 = .ok (.aload_n 0, 1) := by decide +kernel
theorem d_Y_readAll_89 : decode b_Y_readAll 89 = .ok (.getfield 95, 3) := by decide +kernel
theorem d_Y_readAll_92 : decode b_Y_readAll 92 = .ok (.lload_n 1, 1) := by decide +kernel
theorem d_Y_readAll_93 : decode b_Y_readAll 93 = .ok (.lastore, 1) := by decide +kernel
theorem d_Y_readAll_94 : decode b_Y_readAll 94 = .ok (.aload_n 0, 1) := by decide +kernel
theorem d_Y_readAll_95 : decode b_Y_readAll 95 = .ok (.getfield 36, 3) := by decide +kernel
theorem d_Y_readAll_98 : decode b_Y_readAll 98 = .ok (.aload_n 0, 1) := by decide +kernel
theorem d_Y_readAll_99 : decode b_Y_readAll 99 = .ok (.getfield 95, 3) := by decide +kernel
theorem d_Y_readAll_102 : decode b_Y_readAll 102 = .ok (.iload 5, 2) := by decide +kernel
theorem d_Y_readAll_104 : decode b_Y_readAll 104 = .ok (.iastore, 1) := by decide +kernel
theorem d_Y_readAll_105 : decode b_Y_readAll 105 = .ok (.aload_n 0, 1) := by decide +kernel
theorem d_Y_readAll_106 : decode b_Y_readAll 106 = .ok (.getfield 39, 3) := by decide +kernel
theorem d_Y_readAll_109 : decode b_Y_readAll 109 = .ok (.aload_n 0, 1) := by decide +kernel
theorem d_Y_readAll_110 : decode b_Y_readAll 110 = .ok (.getfield 95, 3) := by decide +kernel
theorem d_Y_readAll_113 : decode b_Y_readAll 113 = .ok (.iload 5, 2) := by decide +kernel
theorem d_Y_readAll_115 : decode b_Y_readAll 115 = .ok (.iconst 2, 1) := by decide +kernel
theorem d_Y_readAll_116 : decode b_Y_readAll 116 = .ok (.if_icmp .ne 9, 3) := by decide +kernel
theorem d_Y_readAll_119 : decode b_Y_readAll 119 = .ok (.lload 6, 2) := by decide +kernel
theorem d_Y_readAll_121 : decode b_Y_readAll 121 = .ok (.l2i, 1) := by decide +kernel
theorem d_Y_readAll_122 : decode b_Y_readAll 122 = .ok (.goto 35, 3) := by decide +kernel
theorem d_Y_readAll_125 : decode b_Y_readAll 125 = .ok (.lload 6, 2) := by decide +kernel
theorem d_Y_readAll_127 : decode b_Y_readAll 127 = .ok (.ldc2_w 104, 3) := by decide +kernel
theorem d_Y_readAll_130 : decode b_Y_readAll 130 = .ok (.lrem, 1) := by decide +kernel
theorem d_Y_readAll_131 : decode b_Y_readAll 131 = .ok (.lconst 0, 1) := by decide +kernel
theorem d_Y_readAll_132 : decode b_Y_readAll 132 = .ok (.lcmp, 1) := by decide +kernel
theorem d_Y_readAll_133 : decode b_Y_readAll 133 = .ok (.ifCond .ne 13, 3) := by decide +kernel
theorem d_Y_readAll_136 : decode b_Y_readAll 136 = .ok (.lload 6, 2) := by decide +kernel
theorem d_Y_readAll_138 : decode b_Y_readAll 138 = .ok (.ldc2_w 104, 3) := by decide +kernel
theorem d_Y_readAll_141 : decode b_Y_readAll 141 = .ok (.ldiv, 1) := by decide +kernel
theorem d_Y_readAll_142 : decode b_Y_readAll 142 = .ok (.l2i, 1) := by decide +kernel
theorem d_Y_readAll_143 : decode b_Y_readAll 143 = .ok (.goto 14, 3) := by decide +kernel
theorem d_Y_readAll_146 : decode b_Y_readAll 146 = .ok (.ldc2_w 137, 3) := by decide +kernel
theorem d_Y_readAll_149 : decode b_Y_readAll 149 = .ok (.lload 6, 2) := by decide +kernel
theorem d_Y_readAll_151 : decode b_Y_readAll 151 = .ok (.ldc2_w 104, 3) := by decide +kernel
theorem d_Y_readAll_154 : decode b_Y_readAll 154 = .ok (.ldiv, 1) := by decide +kernel
theorem d_Y_readAll_155 : decode b_Y_readAll 155 = .ok (.lsub, 1) := by decide +kernel
theorem d_Y_readAll_156 : decode b_Y_readAll 156 = .ok (.l2i, 1) := by decide +kernel
theorem d_Y_readAll_157 : decode b_Y_readAll 157 = .ok (.iastore, 1) := by decide +kernel
theorem d_Y_readAll_158 : decode b_Y_readAll 158 = .ok (.aload_n 0, 1) := by decide +kernel
theorem d_Y_readAll_159 : decode b_Y_readAll 159 = .ok (.aload_n 0, 1) := by decide +kernel
theorem d_Y_readAll_160 : decode b_Y_readAll 160 = .ok (.getfield 95, 3) := by decide +kernel
theorem d_Y_readAll_163 : decode b_Y_readAll 163 = .ok (.iconst 1, 1) := by decide +kernel
theorem d_Y_readAll_164 : decode b_Y_readAll 164 = .ok (.iadd, 1) := by decide +kernel
theorem d_Y_readAll_165 : decode b_Y_readAll 165 = .ok (.putfield 95, 3) := by decide +kernel
theorem d_Y_readAll_168 : decode b_Y_readAll 168 = .ok (.goto (-156), 3) := by decide +kernel
theorem d_Y_readAll_171 : decode b_Y_readAll 171 = .ok (.iconst 1, 1) := by decide +kernel
theorem d_Y_readAll_172 : decode b_Y_readAll 172 = .ok (.ireturn, 1) := by decide +kernel
theorem d_Y_readNumber_0 : decode b_Y_readNumber 0 = .ok (.lconst 0, 1) := by decide +kernel
theorem d_Y_readNumber_1 : decode b_Y_readNumber 1 = .ok (.lstore_n 1, 1) := by decide +kernel
theorem d_Y_readNumber_2 : decode b_Y_readNumber 2 = .ok (.iconst 0, 1) := by decide +kernel
theorem d_Y_readNumber_3 : decode b_Y_readNumber 3 = .ok (.istore_n 3, 1) := by decide +kernel
theorem d_Y_readNumber_4 : decode b_Y_readNumber 4 = .ok (.iload_n 3, 1) := by decide +kernel
theorem d_Y_readNumber_5 : decode b_Y_readNumber 5 = .ok (.iconst 5, 1) := by decide +kernel
theorem d_Y_readNumber_6 : decode b_Y_readNumber 6 = .ok (.if_icmp .ge 73, 3) := by decide +kernel
theorem d_Y_readNumber_9 : decode b_Y_readNumber 9 = .ok (.aload_n 0, 1) := by decide +kernel
theorem d_Y_readNumber_10 : decode b_Y_readNumber 10 = .ok (.getfield 134, 3) := by decide +kernel
theorem d_Y_readNumber_13 : decode b_Y_readNumber 13 = .ok (.aload_n 0, 1) := by decide +kernel
theorem d_Y_readNumber_14 : decode b_Y_readNumber 14 = .ok (.getfield 69, 3) := by decide +kernel
theorem d_Y_readNumber_17 : decode b_Y_readNumber 17 = .ok (.if_icmp .lt 7, 3) := by decide +kernel
theorem d_Y_readNumber_20 : decode b_Y_readNumber 20 = .ok (.ldc2_w 137, 3) := by decide +kernel
theorem d_Y_readNumber_23 : decode b_Y_readNumber 23 = .ok (.lreturn, 1) := by decide +kernel
theorem d_Y_readNumber_24 : decode b_Y_readNumber 24 = .ok (.aload_n 0, 1) := by decide +kernel
theorem d_Y_readNumber_25 : decode b_Y_readNumber 25 = .ok (.getfield 25, 3) := by decide +kernel
theorem d_Y_readNumber_28 : decode b_Y_readNumber 28 = .ok (.aload_n 0, 1) := by decide +kernel
theorem d_Y_readNumber_29 : decode b_Y_readNumber 29 = .ok (.getfield 134, 3) := by decide +kernel
theorem d_Y_readNumber_32 : decode b_Y_readNumber 32 = .ok (.iaload, 1) := by decide +kernel
theorem d_Y_readNumber_33 : decode b_Y_readNumber 33 = .ok (.istore 4, 2) := by decide +kernel
theorem d_Y_readNumber_35 : decode b_Y_readNumber 35 = .ok (.aload_n 0, 1) := by decide +kernel
theorem d_Y_readNumber_36 : decode b_Y_readNumber 36 = .ok (.aload_n 0, 1) := by decide +kernel
theorem d_Y_readNumber_37 : decode b_Y_readNumber 37 = .ok (.getfield 134, 3) := by decide +kernel
theorem d_Y_readNumber_40 : decode b_Y_readNumber 40 = .ok (.iconst 1, 1) := by decide +kernel
theorem d_Y_readNumber_41 : decode b_Y_readNumber 41 = .ok (.iadd, 1) := by decide +kernel
theorem d_Y_readNumber_42 : decode b_Y_readNumber 42 = .ok (.putfield 134, 3) := by decide +kernel
theorem d_Y_readNumber_45 : decode b_Y_readNumber 45 = .ok (.lload_n 1, 1) := by decide +kernel
theorem d_Y_readNumber_46 : decode b_Y_readNumber 46 = .ok (.iload 4, 2) := by decide +kernel
theorem d_Y_readNumber_48 : decode b_Y_readNumber 48 = .ok (.bipush 127, 2) := by decide +kernel
theorem d_Y_readNumber_50 : decode b_Y_readNumber 50 = .ok (.iand, 1) := by decide +kernel
theorem d_Y_readNumber_51 : decode b_Y_readNumber 51 = .ok (.i2l, 1) := by decide +kernel
theorem d_Y_readNumber_52 : decode b_Y_readNumber 52 = .ok (.bipush 7, 2) := by decide +kernel
theorem d_Y_readNumber_54 : decode b_Y_readNumber 54 = .ok (.iload_n 3, 1) := by decide +kernel
theorem d_Y_readNumber_55 : decode b_Y_readNumber 55 = .ok (.imul, 1) := by decide +kernel
theorem d_Y_readNumber_56 : decode b_Y_readNumber 56 = .ok (.lshl, 1) := by decide +kernel
theorem d_Y_readNumber_57 : decode b_Y_readNumber 57 = .ok (.lor, 1) := by decide +kernel
theorem d_Y_readNumber_58 : decode b_Y_readNumber 58 = .ok (.lstore_n 1, 1) := by decide +kernel
theorem d_Y_readNumber_59 : decode b_Y_readNumber 59 = .ok (.iload 4, 2) := by decide +kernel
theorem d_Y_readNumber_61 : decode b_Y_readNumber 61 = .ok (.sipush 128, 3) := by decide +kernel
theorem d_Y_readNumber_64 : decode b_Y_readNumber 64 = .ok (.if_icmp .ge 9, 3) := by decide +kernel
theorem d_Y_readNumber_67 : decode b_Y_readNumber 67 = .ok (.lload_n 1, 1) := by decide +kernel
theorem d_Y_readNumber_68 : decode b_Y_readNumber 68 = .ok (.ldc2_w 139, 3) := by decide +kernel
theorem d_Y_readNumber_71 : decode b_Y_readNumber 71 = .ok (.land, 1) := by decide +kernel
theorem d_Y_readNumber_72 : decode b_Y_readNumber 72 = .ok (.lreturn, 1) := by decide +kernel
theorem d_Y_readNumber_73 : decode b_Y_readNumber 73 = .ok (.iinc 3 1, 3) := by decide +kernel
theorem d_Y_readNumber_76 : decode b_Y_readNumber 76 = .ok (.goto (-72), 3) := by decide +kernel
theorem d_Y_readNumber_79 : decode b_Y_readNumber 79 = .ok (.ldc2_w 137, 3) := by decide +kernel
theorem d_Y_readNumber_82 : decode b_Y_readNumber 82 = .ok (.lreturn, 1) := by decide +kernel
theorem d_Y_log_0 : decode b_Y_log 0 = .ok (.aload_n 0, 1) := by decide +kernel
theorem d_Y_log_1 : decode b_Y_log 1 = .ok (.getfield 69, 3) := by decide +kernel
theorem d_Y_log_4 : decode b_Y_log 4 = .ok (.ireturn, 1) := by decide +kernel
theorem d_Y_at_0 : decode b_Y_at 0 = .ok (.iload_n 1, 1) := by decide +kernel
theorem d_Y_at_1 : decode b_Y_at 1 = .ok (.iconst 0, 1) := by decide +kernel
theorem d_Y_at_2 : decode b_Y_at 2 = .ok (.aload_n 0, 1) := by decide +kernel
theorem d_Y_at_3 : decode b_Y_at 3 = .ok (.getfield 69, 3) := by decide +kernel
theorem d_Y_at_6 : decode b_Y_at 6 = .ok (.iconst 1, 1) := by decide +kernel
theorem d_Y_at_7 : decode b_Y_at 7 = .ok (.isub, 1) := by decide +kernel
theorem d_Y_at_8 : decode b_Y_at 8 = .ok (.invokestatic 45, 3) := by decide +kernel
theorem d_Y_at_11 : decode b_Y_at 11 = .ok (.ifCond .eq 12, 3) := by decide +kernel
theorem d_Y_at_14 : decode b_Y_at 14 = .ok (.aload_n 0, 1) := by decide +kernel
theorem d_Y_at_15 : decode b_Y_at 15 = .ok (.getfield 25, 3) := by decide +kernel
theorem d_Y_at_18 : decode b_Y_at 18 = .ok (.iload_n 1, 1) := by decide +kernel
theorem d_Y_at_19 : decode b_Y_at 19 = .ok (.iaload, 1) := by decide +kernel
theorem d_Y_at_20 : decode b_Y_at 20 = .ok (.goto 4, 3) := by decide +kernel
theorem d_Y_at_23 : decode b_Y_at 23 = .ok (.iconst (-1), 1) := by decide +kernel
theorem d_Y_at_24 : decode b_Y_at 24 = .ok (.ireturn, 1) := by decide +kernel
theorem d_Y_entries_0 : decode b_Y_entries 0 = .ok (.aload_n 0, 1) := by decide +kernel
theorem d_Y_entries_1 : decode b_Y_entries 1 = .ok (.getfield 72, 3) := by decide +kernel
theorem d_Y_entries_4 : decode b_Y_entries 4 = .ok (.ireturn, 1) := by decide +kernel
theorem d_Y_seal_0 : decode b_Y_seal 0 = .ok (.aload_n 0, 1) := by decide +kernel
theorem d_Y_seal_1 : decode b_Y_seal 1 = .ok (.getfield 28, 3) := by decide +kernel
theorem d_Y_seal_4 : decode b_Y_seal 4 = .ok (.ireturn, 1) := by decide +kernel
theorem d_Y_change_0 : decode b_Y_change 0 = .ok (.iload_n 1, 1) := by decide +kernel
theorem d_Y_change_1 : decode b_Y_change 1 = .ok (.iconst 0, 1) := by decide +kernel
theorem d_Y_change_2 : decode b_Y_change 2 = .ok (.aload_n 0, 1) := by decide +kernel
theorem d_Y_change_3 : decode b_Y_change 3 = .ok (.getfield 69, 3) := by decide +kernel
theorem d_Y_change_6 : decode b_Y_change 6 = .ok (.iconst 1, 1) := by decide +kernel
theorem d_Y_change_7 : decode b_Y_change 7 = .ok (.isub, 1) := by decide +kernel
theorem d_Y_change_8 : decode b_Y_change 8 = .ok (.invokestatic 45, 3) := by decide +kernel
theorem d_Y_change_11 : decode b_Y_change 11 = .ok (.ifCond .eq 14, 3) := by decide +kernel
theorem d_Y_change_14 : decode b_Y_change 14 = .ok (.iload_n 2, 1) := by decide +kernel
theorem d_Y_change_15 : decode b_Y_change 15 = .ok (.iconst 0, 1) := by decide +kernel
theorem d_Y_change_16 : decode b_Y_change 16 = .ok (.sipush 255, 3) := by decide +kernel
theorem d_Y_change_19 : decode b_Y_change 19 = .ok (.invokestatic 45, 3) := by decide +kernel
theorem d_Y_change_22 : decode b_Y_change 22 = .ok (.ifCond .ne 5, 3) := by decide +kernel
theorem d_Y_change_25 : decode b_Y_change 25 = .ok (.iconst 0, 1) := by decide +kernel
theorem d_Y_change_26 : decode b_Y_change 26 = .ok (.ireturn, 1) := by decide +kernel
theorem d_Y_change_27 : decode b_Y_change 27 = .ok (.aload_n 0, 1) := by decide +kernel
theorem d_Y_change_28 : decode b_Y_change 28 = .ok (.getfield 25, 3) := by decide +kernel
theorem d_Y_change_31 : decode b_Y_change 31 = .ok (.iload_n 1, 1) := by decide +kernel
theorem d_Y_change_32 : decode b_Y_change 32 = .ok (.iload_n 2, 1) := by decide +kernel
theorem d_Y_change_33 : decode b_Y_change 33 = .ok (.iastore, 1) := by decide +kernel
theorem d_Y_change_34 : decode b_Y_change 34 = .ok (.iconst 1, 1) := by decide +kernel
theorem d_Y_change_35 : decode b_Y_change 35 = .ok (.ireturn, 1) := by decide +kernel
theorem d_Y_state_0 : decode b_Y_state 0 = .ok (.iload_n 1, 1) := by decide +kernel
theorem d_Y_state_1 : decode b_Y_state 1 = .ok (.iconst 0, 1) := by decide +kernel
theorem d_Y_state_2 : decode b_Y_state 2 = .ok (.iconst 1, 1) := by decide +kernel
theorem d_Y_state_3 : decode b_Y_state 3 = .ok (.invokestatic 45, 3) := by decide +kernel
theorem d_Y_state_6 : decode b_Y_state 6 = .ok (.ifCond .eq 27, 3) := by decide +kernel
theorem d_Y_state_9 : decode b_Y_state 9 = .ok (.iload_n 2, 1) := by decide +kernel
theorem d_Y_state_10 : decode b_Y_state 10 = .ok (.iconst 0, 1) := by decide +kernel
theorem d_Y_state_11 : decode b_Y_state 11 = .ok (.bipush 9, 2) := by decide +kernel
theorem d_Y_state_13 : decode b_Y_state 13 = .ok (.invokestatic 45, 3) := by decide +kernel
theorem d_Y_state_16 : decode b_Y_state 16 = .ok (.ifCond .eq 17, 3) := by decide +kernel
theorem d_Y_state_19 : decode b_Y_state 19 = .ok (.aload_n 0, 1) := by decide +kernel
theorem d_Y_state_20 : decode b_Y_state 20 = .ok (.getfield 19, 3) := by decide +kernel
theorem d_Y_state_23 : decode b_Y_state 23 = .ok (.bipush 48, 2) := by decide +kernel
theorem d_Y_state_25 : decode b_Y_state 25 = .ok (.iload_n 1, 1) := by decide +kernel
theorem d_Y_state_26 : decode b_Y_state 26 = .ok (.imul, 1) := by decide +kernel
theorem d_Y_state_27 : decode b_Y_state 27 = .ok (.iload_n 2, 1) := by decide +kernel
theorem d_Y_state_28 : decode b_Y_state 28 = .ok (.iadd, 1) := by decide +kernel
theorem d_Y_state_29 : decode b_Y_state 29 = .ok (.iaload, 1) := by decide +kernel
theorem d_Y_state_30 : decode b_Y_state 30 = .ok (.goto 4, 3) := by decide +kernel
theorem d_Y_state_33 : decode b_Y_state 33 = .ok (.iconst 0, 1) := by decide +kernel
theorem d_Y_state_34 : decode b_Y_state 34 = .ok (.ireturn, 1) := by decide +kernel
theorem d_Y_cell_0 : decode b_Y_cell 0 = .ok (.iload_n 1, 1) := by decide +kernel
theorem d_Y_cell_1 : decode b_Y_cell 1 = .ok (.iconst 0, 1) := by decide +kernel
theorem d_Y_cell_2 : decode b_Y_cell 2 = .ok (.iconst 1, 1) := by decide +kernel
theorem d_Y_cell_3 : decode b_Y_cell 3 = .ok (.invokestatic 45, 3) := by decide +kernel
theorem d_Y_cell_6 : decode b_Y_cell 6 = .ok (.ifCond .eq 30, 3) := by decide +kernel
theorem d_Y_cell_9 : decode b_Y_cell 9 = .ok (.iload_n 2, 1) := by decide +kernel
theorem d_Y_cell_10 : decode b_Y_cell 10 = .ok (.iconst 0, 1) := by decide +kernel
theorem d_Y_cell_11 : decode b_Y_cell 11 = .ok (.bipush 31, 2) := by decide +kernel
theorem d_Y_cell_13 : decode b_Y_cell 13 = .ok (.invokestatic 45, 3) := by decide +kernel
theorem d_Y_cell_16 : decode b_Y_cell 16 = .ok (.ifCond .eq 20, 3) := by decide +kernel
theorem d_Y_cell_19 : decode b_Y_cell 19 = .ok (.aload_n 0, 1) := by decide +kernel
theorem d_Y_cell_20 : decode b_Y_cell 20 = .ok (.getfield 19, 3) := by decide +kernel
theorem d_Y_cell_23 : decode b_Y_cell 23 = .ok (.bipush 48, 2) := by decide +kernel
theorem d_Y_cell_25 : decode b_Y_cell 25 = .ok (.iload_n 1, 1) := by decide +kernel
theorem d_Y_cell_26 : decode b_Y_cell 26 = .ok (.imul, 1) := by decide +kernel
theorem d_Y_cell_27 : decode b_Y_cell 27 = .ok (.bipush 16, 2) := by decide +kernel
theorem d_Y_cell_29 : decode b_Y_cell 29 = .ok (.iadd, 1) := by decide +kernel
theorem d_Y_cell_30 : decode b_Y_cell 30 = .ok (.iload_n 2, 1) := by decide +kernel
theorem d_Y_cell_31 : decode b_Y_cell 31 = .ok (.iadd, 1) := by decide +kernel
theorem d_Y_cell_32 : decode b_Y_cell 32 = .ok (.iaload, 1) := by decide +kernel
theorem d_Y_cell_33 : decode b_Y_cell 33 = .ok (.goto 4, 3) := by decide +kernel
theorem d_Y_cell_36 : decode b_Y_cell 36 = .ok (.iconst 0, 1) := by decide +kernel
theorem d_Y_cell_37 : decode b_Y_cell 37 = .ok (.ireturn, 1) := by decide +kernel
theorem d_Y_sealed_0 : decode b_Y_sealed 0 = .ok (.iload_n 3, 1) := by decide +kernel
theorem d_Y_sealed_1 : decode b_Y_sealed 1 = .ok (.iconst 1, 1) := by decide +kernel
theorem d_Y_sealed_2 : decode b_Y_sealed 2 = .ok (.iconst 4, 1) := by decide +kernel
theorem d_Y_sealed_3 : decode b_Y_sealed 3 = .ok (.invokestatic 45, 3) := by decide +kernel
theorem d_Y_sealed_6 : decode b_Y_sealed 6 = .ok (.ifCond .ne 5, 3) := by decide +kernel
theorem d_Y_sealed_9 : decode b_Y_sealed 9 = .ok (.iconst 0, 1) := by decide +kernel
theorem d_Y_sealed_10 : decode b_Y_sealed 10 = .ok (.ireturn, 1) := by decide +kernel
theorem d_Y_sealed_11 : decode b_Y_sealed 11 = .ok (.iload_n 1, 1) := by decide +kernel
theorem d_Y_sealed_12 : decode b_Y_sealed 12 = .ok (.istore 4, 2) := by decide +kernel
theorem d_Y_sealed_14 : decode b_Y_sealed 14 = .ok (.iload_n 3, 1) := by decide +kernel
theorem d_Y_sealed_15 : decode b_Y_sealed 15 = .ok (.iconst 1, 1) := by decide +kernel
theorem d_Y_sealed_16 : decode b_Y_sealed 16 = .ok (.isub, 1) := by decide +kernel
theorem d_Y_sealed_17 : decode b_Y_sealed 17 = .ok (.istore 5, 2) := by decide +kernel
theorem d_Y_sealed_19 : decode b_Y_sealed 19 = .ok (.iload 5, 2) := by decide +kernel
theorem d_Y_sealed_21 : decode b_Y_sealed 21 = .ok (.ifCond .lt 27, 3) := by decide +kernel
theorem d_Y_sealed_24 : decode b_Y_sealed 24 = .ok (.iload 4, 2) := by decide +kernel
theorem d_Y_sealed_26 : decode b_Y_sealed 26 = .ok (.iload_n 2, 1) := by decide +kernel
theorem d_Y_sealed_27 : decode b_Y_sealed 27 = .ok (.bipush 8, 2) := by decide +kernel
theorem d_Y_sealed_29 : decode b_Y_sealed 29 = .ok (.iload 5, 2) := by decide +kernel
theorem d_Y_sealed_31 : decode b_Y_sealed 31 = .ok (.imul, 1) := by decide +kernel
theorem d_Y_sealed_32 : decode b_Y_sealed 32 = .ok (.ishr, 1) := by decide +kernel
theorem d_Y_sealed_33 : decode b_Y_sealed 33 = .ok (.sipush 255, 3) := by decide +kernel
theorem d_Y_sealed_36 : decode b_Y_sealed 36 = .ok (.iand, 1) := by decide +kernel
theorem d_Y_sealed_37 : decode b_Y_sealed 37 = .ok (.invokestatic 80, 3) := by decide +kernel
theorem d_Y_sealed_40 : decode b_Y_sealed 40 = .ok (.istore 4, 2) := by decide +kernel
theorem d_Y_sealed_42 : decode b_Y_sealed 42 = .ok (.iinc 5 (-1), 3) := by decide +kernel
theorem d_Y_sealed_45 : decode b_Y_sealed 45 = .ok (.goto (-26), 3) := by decide +kernel
theorem d_Y_sealed_48 : decode b_Y_sealed 48 = .ok (.iload 4, 2) := by decide +kernel
theorem d_Y_sealed_50 : decode b_Y_sealed 50 = .ok (.ireturn, 1) := by decide +kernel
theorem d_L_law_0 : decode b_L_law 0 = .ok (.new 7, 3) := by decide +kernel
theorem d_L_law_3 : decode b_L_law 3 = .ok (.dup, 1) := by decide +kernel
theorem d_L_law_4 : decode b_L_law 4 = .ok (.aload_n 0, 1) := by decide +kernel
theorem d_L_law_5 : decode b_L_law 5 = .ok (.iconst 0, 1) := by decide +kernel
theorem d_L_law_6 : decode b_L_law 6 = .ok (.invokestatic 9, 3) := by decide +kernel
theorem d_L_law_9 : decode b_L_law 9 = .ok (.invokespecial 15, 3) := by decide +kernel
theorem d_L_law_12 : decode b_L_law 12 = .ok (.astore_n 1, 1) := by decide +kernel
theorem d_L_law_13 : decode b_L_law 13 = .ok (.new 18, 3) := by decide +kernel
theorem d_L_law_16 : decode b_L_law 16 = .ok (.dup, 1) := by decide +kernel
theorem d_L_law_17 : decode b_L_law 17 = .ok (.aload_n 0, 1) := by decide +kernel
theorem d_L_law_18 : decode b_L_law 18 = .ok (.iconst 0, 1) := by decide +kernel
theorem d_L_law_19 : decode b_L_law 19 = .ok (.invokestatic 9, 3) := by decide +kernel
theorem d_L_law_22 : decode b_L_law 22 = .ok (.invokespecial 20, 3) := by decide +kernel
theorem d_L_law_25 : decode b_L_law 25 = .ok (.astore_n 2, 1) := by decide +kernel
theorem d_L_law_26 : decode b_L_law 26 = .ok (.iconst 1, 1) := by decide +kernel
theorem d_L_law_27 : decode b_L_law 27 = .ok (.istore_n 3, 1) := by decide +kernel
theorem d_L_law_28 : decode b_L_law 28 = .ok (.iload_n 3, 1) := by decide +kernel
theorem d_L_law_29 : decode b_L_law 29 = .ok (.aload_n 0, 1) := by decide +kernel
theorem d_L_law_30 : decode b_L_law 30 = .ok (.arraylength, 1) := by decide +kernel
theorem d_L_law_31 : decode b_L_law 31 = .ok (.iconst 4, 1) := by decide +kernel
theorem d_L_law_32 : decode b_L_law 32 = .ok (.isub, 1) := by decide +kernel
theorem d_L_law_33 : decode b_L_law 33 = .ok (.if_icmp .gt 464, 3) := by decide +kernel
theorem d_L_law_36 : decode b_L_law 36 = .ok (.aload_n 0, 1) := by decide +kernel
theorem d_L_law_37 : decode b_L_law 37 = .ok (.iload_n 3, 1) := by decide +kernel
theorem d_L_law_38 : decode b_L_law 38 = .ok (.iaload, 1) := by decide +kernel
theorem d_L_law_39 : decode b_L_law 39 = .ok (.bipush 15, 2) := by decide +kernel
theorem d_L_law_41 : decode b_L_law 41 = .ok (.iand, 1) := by decide +kernel
theorem d_L_law_42 : decode b_L_law 42 = .ok (.tableswitch 449 0 14 #[74, 117, 130, 153, 166, 189, 212, 225, 248, 261, 274, 307, 340, 373, 406], 74) := by decide +kernel
theorem d_L_law_116 : decode b_L_law 116 = .ok (.aload_n 1, 1) := by decide +kernel
theorem d_L_law_117 : decode b_L_law 117 = .ok (.aload_n 0, 1) := by decide +kernel
theorem d_L_law_118 : decode b_L_law 118 = .ok (.iload_n 3, 1) := by decide +kernel
theorem d_L_law_119 : decode b_L_law 119 = .ok (.iconst 1, 1) := by decide +kernel
theorem d_L_law_120 : decode b_L_law 120 = .ok (.iadd, 1) := by decide +kernel
theorem d_L_law_121 : decode b_L_law 121 = .ok (.iaload, 1) := by decide +kernel
theorem d_L_law_122 : decode b_L_law 122 = .ok (.aload_n 0, 1) := by decide +kernel
theorem d_L_law_123 : decode b_L_law 123 = .ok (.iload_n 3, 1) := by decide +kernel
theorem d_L_law_124 : decode b_L_law 124 = .ok (.iconst 2, 1) := by decide +kernel
theorem d_L_law_125 : decode b_L_law 125 = .ok (.iadd, 1) := by decide +kernel
theorem d_L_law_126 : decode b_L_law 126 = .ok (.iaload, 1) := by decide +kernel
theorem d_L_law_127 : decode b_L_law 127 = .ok (.aload_n 0, 1) := by decide +kernel
theorem d_L_law_128 : decode b_L_law 128 = .ok (.iload_n 3, 1) := by decide +kernel
theorem d_L_law_129 : decode b_L_law 129 = .ok (.iconst 3, 1) := by decide +kernel
theorem d_L_law_130 : decode b_L_law 130 = .ok (.iadd, 1) := by decide +kernel
theorem d_L_law_131 : decode b_L_law 131 = .ok (.iaload, 1) := by decide +kernel
theorem d_L_law_132 : decode b_L_law 132 = .ok (.invokevirtual 21, 3) := by decide +kernel
theorem d_L_law_135 : decode b_L_law 135 = .ok (.aload_n 2, 1) := by decide +kernel
theorem d_L_law_136 : decode b_L_law 136 = .ok (.aload_n 0, 1) := by decide +kernel
theorem d_L_law_137 : decode b_L_law 137 = .ok (.iload_n 3, 1) := by decide +kernel
theorem d_L_law_138 : decode b_L_law 138 = .ok (.iconst 1, 1) := by decide +kernel
theorem d_L_law_139 : decode b_L_law 139 = .ok (.iadd, 1) := by decide +kernel
theorem d_L_law_140 : decode b_L_law 140 = .ok (.iaload, 1) := by decide +kernel
theorem d_L_law_141 : decode b_L_law 141 = .ok (.aload_n 0, 1) := by decide +kernel
theorem d_L_law_142 : decode b_L_law 142 = .ok (.iload_n 3, 1) := by decide +kernel
theorem d_L_law_143 : decode b_L_law 143 = .ok (.iconst 2, 1) := by decide +kernel
theorem d_L_law_144 : decode b_L_law 144 = .ok (.iadd, 1) := by decide +kernel
theorem d_L_law_145 : decode b_L_law 145 = .ok (.iaload, 1) := by decide +kernel
theorem d_L_law_146 : decode b_L_law 146 = .ok (.aload_n 0, 1) := by decide +kernel
theorem d_L_law_147 : decode b_L_law 147 = .ok (.iload_n 3, 1) := by decide +kernel
theorem d_L_law_148 : decode b_L_law 148 = .ok (.iconst 3, 1) := by decide +kernel
theorem d_L_law_149 : decode b_L_law 149 = .ok (.iadd, 1) := by decide +kernel
theorem d_L_law_150 : decode b_L_law 150 = .ok (.iaload, 1) := by decide +kernel
theorem d_L_law_151 : decode b_L_law 151 = .ok (.invokevirtual 25, 3) := by decide +kernel
theorem d_L_law_154 : decode b_L_law 154 = .ok (.if_icmp .eq 337, 3) := by decide +kernel
theorem d_L_law_157 : decode b_L_law 157 = .ok (.iconst 0, 1) := by decide +kernel
theorem d_L_law_158 : decode b_L_law 158 = .ok (.ireturn, 1) := by decide +kernel
theorem d_L_law_159 : decode b_L_law 159 = .ok (.aload_n 1, 1) := by decide +kernel
theorem d_L_law_160 : decode b_L_law 160 = .ok (.invokevirtual 26, 3) := by decide +kernel
theorem d_L_law_163 : decode b_L_law 163 = .ok (.aload_n 2, 1) := by decide +kernel
theorem d_L_law_164 : decode b_L_law 164 = .ok (.invokevirtual 30, 3) := by decide +kernel
theorem d_L_law_167 : decode b_L_law 167 = .ok (.if_icmp .eq 324, 3) := by decide +kernel
theorem d_L_law_170 : decode b_L_law 170 = .ok (.iconst 0, 1) := by decide +kernel
theorem d_L_law_171 : decode b_L_law 171 = .ok (.ireturn, 1) := by decide +kernel
theorem d_L_law_172 : decode b_L_law 172 = .ok (.aload_n 1, 1) := by decide +kernel
theorem d_L_law_173 : decode b_L_law 173 = .ok (.aload_n 0, 1) := by decide +kernel
theorem d_L_law_174 : decode b_L_law 174 = .ok (.iload_n 3, 1) := by decide +kernel
theorem d_L_law_175 : decode b_L_law 175 = .ok (.iconst 1, 1) := by decide +kernel
theorem d_L_law_176 : decode b_L_law 176 = .ok (.iadd, 1) := by decide +kernel
theorem d_L_law_177 : decode b_L_law 177 = .ok (.iaload, 1) := by decide +kernel
theorem d_L_law_178 : decode b_L_law 178 = .ok (.invokevirtual 31, 3) := by decide +kernel
theorem d_L_law_181 : decode b_L_law 181 = .ok (.aload_n 2, 1) := by decide +kernel
theorem d_L_law_182 : decode b_L_law 182 = .ok (.aload_n 0, 1) := by decide +kernel
theorem d_L_law_183 : decode b_L_law 183 = .ok (.iload_n 3, 1) := by decide +kernel
theorem d_L_law_184 : decode b_L_law 184 = .ok (.iconst 1, 1) := by decide +kernel
theorem d_L_law_185 : decode b_L_law 185 = .ok (.iadd, 1) := by decide +kernel
theorem d_L_law_186 : decode b_L_law 186 = .ok (.iaload, 1) := by decide +kernel
theorem d_L_law_187 : decode b_L_law 187 = .ok (.invokevirtual 35, 3) := by decide +kernel
theorem d_L_law_190 : decode b_L_law 190 = .ok (.if_icmp .eq 301, 3) := by decide +kernel
theorem d_L_law_193 : decode b_L_law 193 = .ok (.iconst 0, 1) := by decide +kernel
theorem d_L_law_194 : decode b_L_law 194 = .ok (.ireturn, 1) := by decide +kernel
theorem d_L_law_195 : decode b_L_law 195 = .ok (.aload_n 1, 1) := by decide +kernel
theorem d_L_law_196 : decode b_L_law 196 = .ok (.invokevirtual 36, 3) := by decide +kernel
theorem d_L_law_199 : decode b_L_law 199 = .ok (.aload_n 2, 1) := by decide +kernel
theorem d_L_law_200 : decode b_L_law 200 = .ok (.invokevirtual 40, 3) := by decide +kernel
theorem d_L_law_203 : decode b_L_law 203 = .ok (.if_icmp .eq 288, 3) := by decide +kernel
theorem d_L_law_206 : decode b_L_law 206 = .ok (.iconst 0, 1) := by decide +kernel
theorem d_L_law_207 : decode b_L_law 207 = .ok (.ireturn, 1) := by decide +kernel
theorem d_L_law_208 : decode b_L_law 208 = .ok (.aload_n 1, 1) := by decide +kernel
theorem d_L_law_209 : decode b_L_law 209 = .ok (.aload_n 0, 1) := by decide +kernel
theorem d_L_law_210 : decode b_L_law 210 = .ok (.iload_n 3, 1) := by decide +kernel
theorem d_L_law_211 : decode b_L_law 211 = .ok (.iconst 1, 1) := by decide +kernel
theorem d_L_law_212 : decode b_L_law 212 = .ok (.iadd, 1) := by decide +kernel
theorem d_L_law_213 : decode b_L_law 213 = .ok (.iaload, 1) := by decide +kernel
theorem d_L_law_214 : decode b_L_law 214 = .ok (.invokevirtual 41, 3) := by decide +kernel
theorem d_L_law_217 : decode b_L_law 217 = .ok (.aload_n 2, 1) := by decide +kernel
theorem d_L_law_218 : decode b_L_law 218 = .ok (.aload_n 0, 1) := by decide +kernel
theorem d_L_law_219 : decode b_L_law 219 = .ok (.iload_n 3, 1) := by decide +kernel
theorem d_L_law_220 : decode b_L_law 220 = .ok (.iconst 1, 1) := by decide +kernel
theorem d_L_law_221 : decode b_L_law 221 = .ok (.iadd, 1) := by decide +kernel
theorem d_L_law_222 : decode b_L_law 222 = .ok (.iaload, 1) := by decide +kernel
theorem d_L_law_223 : decode b_L_law 223 = .ok (.invokevirtual 45, 3) := by decide +kernel
theorem d_L_law_226 : decode b_L_law 226 = .ok (.if_icmp .eq 265, 3) := by decide +kernel
theorem d_L_law_229 : decode b_L_law 229 = .ok (.iconst 0, 1) := by decide +kernel
theorem d_L_law_230 : decode b_L_law 230 = .ok (.ireturn, 1) := by decide +kernel
theorem d_L_law_231 : decode b_L_law 231 = .ok (.aload_n 1, 1) := by decide +kernel
theorem d_L_law_232 : decode b_L_law 232 = .ok (.aload_n 0, 1) := by decide +kernel
theorem d_L_law_233 : decode b_L_law 233 = .ok (.iload_n 3, 1) := by decide +kernel
theorem d_L_law_234 : decode b_L_law 234 = .ok (.iconst 1, 1) := by decide +kernel
theorem d_L_law_235 : decode b_L_law 235 = .ok (.iadd, 1) := by decide +kernel
theorem d_L_law_236 : decode b_L_law 236 = .ok (.iaload, 1) := by decide +kernel
theorem d_L_law_237 : decode b_L_law 237 = .ok (.invokevirtual 46, 3) := by decide +kernel
theorem d_L_law_240 : decode b_L_law 240 = .ok (.aload_n 2, 1) := by decide +kernel
theorem d_L_law_241 : decode b_L_law 241 = .ok (.aload_n 0, 1) := by decide +kernel
theorem d_L_law_242 : decode b_L_law 242 = .ok (.iload_n 3, 1) := by decide +kernel
theorem d_L_law_243 : decode b_L_law 243 = .ok (.iconst 1, 1) := by decide +kernel
theorem d_L_law_244 : decode b_L_law 244 = .ok (.iadd, 1) := by decide +kernel
theorem d_L_law_245 : decode b_L_law 245 = .ok (.iaload, 1) := by decide +kernel
theorem d_L_law_246 : decode b_L_law 246 = .ok (.invokevirtual 49, 3) := by decide +kernel
theorem d_L_law_249 : decode b_L_law 249 = .ok (.if_icmp .eq 242, 3) := by decide +kernel
theorem d_L_law_252 : decode b_L_law 252 = .ok (.iconst 0, 1) := by decide +kernel
theorem d_L_law_253 : decode b_L_law 253 = .ok (.ireturn, 1) := by decide +kernel
theorem d_L_law_254 : decode b_L_law 254 = .ok (.aload_n 1, 1) := by decide +kernel
theorem d_L_law_255 : decode b_L_law 255 = .ok (.invokevirtual 50, 3) := by decide +kernel
theorem d_L_law_258 : decode b_L_law 258 = .ok (.aload_n 2, 1) := by decide +kernel
theorem d_L_law_259 : decode b_L_law 259 = .ok (.invokevirtual 53, 3) := by decide +kernel
theorem d_L_law_262 : decode b_L_law 262 = .ok (.if_icmp .eq 229, 3) := by decide +kernel
theorem d_L_law_265 : decode b_L_law 265 = .ok (.iconst 0, 1) := by decide +kernel
theorem d_L_law_266 : decode b_L_law 266 = .ok (.ireturn, 1) := by decide +kernel
theorem d_L_law_267 : decode b_L_law 267 = .ok (.aload_n 1, 1) := by decide +kernel
theorem d_L_law_268 : decode b_L_law 268 = .ok (.aload_n 0, 1) := by decide +kernel
theorem d_L_law_269 : decode b_L_law 269 = .ok (.iload_n 3, 1) := by decide +kernel
theorem d_L_law_270 : decode b_L_law 270 = .ok (.iconst 1, 1) := by decide +kernel
theorem d_L_law_271 : decode b_L_law 271 = .ok (.iadd, 1) := by decide +kernel
theorem d_L_law_272 : decode b_L_law 272 = .ok (.iaload, 1) := by decide +kernel
theorem d_L_law_273 : decode b_L_law 273 = .ok (.invokevirtual 54, 3) := by decide +kernel
theorem d_L_law_276 : decode b_L_law 276 = .ok (.aload_n 2, 1) := by decide +kernel
theorem d_L_law_277 : decode b_L_law 277 = .ok (.aload_n 0, 1) := by decide +kernel
theorem d_L_law_278 : decode b_L_law 278 = .ok (.iload_n 3, 1) := by decide +kernel
theorem d_L_law_279 : decode b_L_law 279 = .ok (.iconst 1, 1) := by decide +kernel
theorem d_L_law_280 : decode b_L_law 280 = .ok (.iadd, 1) := by decide +kernel
theorem d_L_law_281 : decode b_L_law 281 = .ok (.iaload, 1) := by decide +kernel
theorem d_L_law_282 : decode b_L_law 282 = .ok (.invokevirtual 57, 3) := by decide +kernel
theorem d_L_law_285 : decode b_L_law 285 = .ok (.if_icmp .eq 206, 3) := by decide +kernel
theorem d_L_law_288 : decode b_L_law 288 = .ok (.iconst 0, 1) := by decide +kernel
theorem d_L_law_289 : decode b_L_law 289 = .ok (.ireturn, 1) := by decide +kernel
theorem d_L_law_290 : decode b_L_law 290 = .ok (.aload_n 1, 1) := by decide +kernel
theorem d_L_law_291 : decode b_L_law 291 = .ok (.invokevirtual 58, 3) := by decide +kernel
theorem d_L_law_294 : decode b_L_law 294 = .ok (.aload_n 2, 1) := by decide +kernel
theorem d_L_law_295 : decode b_L_law 295 = .ok (.invokevirtual 61, 3) := by decide +kernel
theorem d_L_law_298 : decode b_L_law 298 = .ok (.if_icmp .eq 193, 3) := by decide +kernel
theorem d_L_law_301 : decode b_L_law 301 = .ok (.iconst 0, 1) := by decide +kernel
theorem d_L_law_302 : decode b_L_law 302 = .ok (.ireturn, 1) := by decide +kernel
theorem d_L_law_303 : decode b_L_law 303 = .ok (.aload_n 1, 1) := by decide +kernel
theorem d_L_law_304 : decode b_L_law 304 = .ok (.invokevirtual 62, 3) := by decide +kernel
theorem d_L_law_307 : decode b_L_law 307 = .ok (.aload_n 2, 1) := by decide +kernel
theorem d_L_law_308 : decode b_L_law 308 = .ok (.invokevirtual 65, 3) := by decide +kernel
theorem d_L_law_311 : decode b_L_law 311 = .ok (.if_icmp .eq 180, 3) := by decide +kernel
theorem d_L_law_314 : decode b_L_law 314 = .ok (.iconst 0, 1) := by decide +kernel
theorem d_L_law_315 : decode b_L_law 315 = .ok (.ireturn, 1) := by decide +kernel
theorem d_L_law_316 : decode b_L_law 316 = .ok (.aload_n 1, 1) := by decide +kernel
theorem d_L_law_317 : decode b_L_law 317 = .ok (.aload_n 0, 1) := by decide +kernel
theorem d_L_law_318 : decode b_L_law 318 = .ok (.iload_n 3, 1) := by decide +kernel
theorem d_L_law_319 : decode b_L_law 319 = .ok (.iconst 1, 1) := by decide +kernel
theorem d_L_law_320 : decode b_L_law 320 = .ok (.iadd, 1) := by decide +kernel
theorem d_L_law_321 : decode b_L_law 321 = .ok (.iaload, 1) := by decide +kernel
theorem d_L_law_322 : decode b_L_law 322 = .ok (.aload_n 0, 1) := by decide +kernel
theorem d_L_law_323 : decode b_L_law 323 = .ok (.iload_n 3, 1) := by decide +kernel
theorem d_L_law_324 : decode b_L_law 324 = .ok (.iconst 2, 1) := by decide +kernel
theorem d_L_law_325 : decode b_L_law 325 = .ok (.iadd, 1) := by decide +kernel
theorem d_L_law_326 : decode b_L_law 326 = .ok (.iaload, 1) := by decide +kernel
theorem d_L_law_327 : decode b_L_law 327 = .ok (.invokevirtual 66, 3) := by decide +kernel
theorem d_L_law_330 : decode b_L_law 330 = .ok (.aload_n 2, 1) := by decide +kernel
theorem d_L_law_331 : decode b_L_law 331 = .ok (.aload_n 0, 1) := by decide +kernel
theorem d_L_law_332 : decode b_L_law 332 = .ok (.iload_n 3, 1) := by decide +kernel
theorem d_L_law_333 : decode b_L_law 333 = .ok (.iconst 1, 1) := by decide +kernel
theorem d_L_law_334 : decode b_L_law 334 = .ok (.iadd, 1) := by decide +kernel
theorem d_L_law_335 : decode b_L_law 335 = .ok (.iaload, 1) := by decide +kernel
theorem d_L_law_336 : decode b_L_law 336 = .ok (.aload_n 0, 1) := by decide +kernel
theorem d_L_law_337 : decode b_L_law 337 = .ok (.iload_n 3, 1) := by decide +kernel
theorem d_L_law_338 : decode b_L_law 338 = .ok (.iconst 2, 1) := by decide +kernel
theorem d_L_law_339 : decode b_L_law 339 = .ok (.iadd, 1) := by decide +kernel
theorem d_L_law_340 : decode b_L_law 340 = .ok (.iaload, 1) := by decide +kernel
theorem d_L_law_341 : decode b_L_law 341 = .ok (.invokevirtual 70, 3) := by decide +kernel
theorem d_L_law_344 : decode b_L_law 344 = .ok (.if_icmp .eq 147, 3) := by decide +kernel
theorem d_L_law_347 : decode b_L_law 347 = .ok (.iconst 0, 1) := by decide +kernel
theorem d_L_law_348 : decode b_L_law 348 = .ok (.ireturn, 1) := by decide +kernel
theorem d_L_law_349 : decode b_L_law 349 = .ok (.aload_n 1, 1) := by decide +kernel
theorem d_L_law_350 : decode b_L_law 350 = .ok (.aload_n 0, 1) := by decide +kernel
theorem d_L_law_351 : decode b_L_law 351 = .ok (.iload_n 3, 1) := by decide +kernel
theorem d_L_law_352 : decode b_L_law 352 = .ok (.iconst 1, 1) := by decide +kernel
theorem d_L_law_353 : decode b_L_law 353 = .ok (.iadd, 1) := by decide +kernel
theorem d_L_law_354 : decode b_L_law 354 = .ok (.iaload, 1) := by decide +kernel
theorem d_L_law_355 : decode b_L_law 355 = .ok (.aload_n 0, 1) := by decide +kernel
theorem d_L_law_356 : decode b_L_law 356 = .ok (.iload_n 3, 1) := by decide +kernel
theorem d_L_law_357 : decode b_L_law 357 = .ok (.iconst 2, 1) := by decide +kernel
theorem d_L_law_358 : decode b_L_law 358 = .ok (.iadd, 1) := by decide +kernel
theorem d_L_law_359 : decode b_L_law 359 = .ok (.iaload, 1) := by decide +kernel
theorem d_L_law_360 : decode b_L_law 360 = .ok (.invokevirtual 71, 3) := by decide +kernel
theorem d_L_law_363 : decode b_L_law 363 = .ok (.aload_n 2, 1) := by decide +kernel
theorem d_L_law_364 : decode b_L_law 364 = .ok (.aload_n 0, 1) := by decide +kernel
theorem d_L_law_365 : decode b_L_law 365 = .ok (.iload_n 3, 1) := by decide +kernel
theorem d_L_law_366 : decode b_L_law 366 = .ok (.iconst 1, 1) := by decide +kernel
theorem d_L_law_367 : decode b_L_law 367 = .ok (.iadd, 1) := by decide +kernel
theorem d_L_law_368 : decode b_L_law 368 = .ok (.iaload, 1) := by decide +kernel
theorem d_L_law_369 : decode b_L_law 369 = .ok (.aload_n 0, 1) := by decide +kernel
theorem d_L_law_370 : decode b_L_law 370 = .ok (.iload_n 3, 1) := by decide +kernel
theorem d_L_law_371 : decode b_L_law 371 = .ok (.iconst 2, 1) := by decide +kernel
theorem d_L_law_372 : decode b_L_law 372 = .ok (.iadd, 1) := by decide +kernel
theorem d_L_law_373 : decode b_L_law 373 = .ok (.iaload, 1) := by decide +kernel
theorem d_L_law_374 : decode b_L_law 374 = .ok (.invokevirtual 75, 3) := by decide +kernel
theorem d_L_law_377 : decode b_L_law 377 = .ok (.if_icmp .eq 114, 3) := by decide +kernel
theorem d_L_law_380 : decode b_L_law 380 = .ok (.iconst 0, 1) := by decide +kernel
theorem d_L_law_381 : decode b_L_law 381 = .ok (.ireturn, 1) := by decide +kernel
theorem d_L_law_382 : decode b_L_law 382 = .ok (.aload_n 1, 1) := by decide +kernel
theorem d_L_law_383 : decode b_L_law 383 = .ok (.aload_n 0, 1) := by decide +kernel
theorem d_L_law_384 : decode b_L_law 384 = .ok (.iload_n 3, 1) := by decide +kernel
theorem d_L_law_385 : decode b_L_law 385 = .ok (.iconst 1, 1) := by decide +kernel
theorem d_L_law_386 : decode b_L_law 386 = .ok (.iadd, 1) := by decide +kernel
theorem d_L_law_387 : decode b_L_law 387 = .ok (.iaload, 1) := by decide +kernel
theorem d_L_law_388 : decode b_L_law 388 = .ok (.aload_n 0, 1) := by decide +kernel
theorem d_L_law_389 : decode b_L_law 389 = .ok (.iload_n 3, 1) := by decide +kernel
theorem d_L_law_390 : decode b_L_law 390 = .ok (.iconst 2, 1) := by decide +kernel
theorem d_L_law_391 : decode b_L_law 391 = .ok (.iadd, 1) := by decide +kernel
theorem d_L_law_392 : decode b_L_law 392 = .ok (.iaload, 1) := by decide +kernel
theorem d_L_law_393 : decode b_L_law 393 = .ok (.invokevirtual 76, 3) := by decide +kernel
theorem d_L_law_396 : decode b_L_law 396 = .ok (.aload_n 2, 1) := by decide +kernel
theorem d_L_law_397 : decode b_L_law 397 = .ok (.aload_n 0, 1) := by decide +kernel
theorem d_L_law_398 : decode b_L_law 398 = .ok (.iload_n 3, 1) := by decide +kernel
theorem d_L_law_399 : decode b_L_law 399 = .ok (.iconst 1, 1) := by decide +kernel
theorem d_L_law_400 : decode b_L_law 400 = .ok (.iadd, 1) := by decide +kernel
theorem d_L_law_401 : decode b_L_law 401 = .ok (.iaload, 1) := by decide +kernel
theorem d_L_law_402 : decode b_L_law 402 = .ok (.aload_n 0, 1) := by decide +kernel
theorem d_L_law_403 : decode b_L_law 403 = .ok (.iload_n 3, 1) := by decide +kernel
theorem d_L_law_404 : decode b_L_law 404 = .ok (.iconst 2, 1) := by decide +kernel
theorem d_L_law_405 : decode b_L_law 405 = .ok (.iadd, 1) := by decide +kernel
theorem d_L_law_406 : decode b_L_law 406 = .ok (.iaload, 1) := by decide +kernel
theorem d_L_law_407 : decode b_L_law 407 = .ok (.invokevirtual 79, 3) := by decide +kernel
theorem d_L_law_410 : decode b_L_law 410 = .ok (.if_icmp .eq 81, 3) := by decide +kernel
theorem d_L_law_413 : decode b_L_law 413 = .ok (.iconst 0, 1) := by decide +kernel
theorem d_L_law_414 : decode b_L_law 414 = .ok (.ireturn, 1) := by decide +kernel
theorem d_L_law_415 : decode b_L_law 415 = .ok (.aload_n 1, 1) := by decide +kernel
theorem d_L_law_416 : decode b_L_law 416 = .ok (.aload_n 0, 1) := by decide +kernel
theorem d_L_law_417 : decode b_L_law 417 = .ok (.iload_n 3, 1) := by decide +kernel
theorem d_L_law_418 : decode b_L_law 418 = .ok (.iconst 1, 1) := by decide +kernel
theorem d_L_law_419 : decode b_L_law 419 = .ok (.iadd, 1) := by decide +kernel
theorem d_L_law_420 : decode b_L_law 420 = .ok (.iaload, 1) := by decide +kernel
theorem d_L_law_421 : decode b_L_law 421 = .ok (.aload_n 0, 1) := by decide +kernel
theorem d_L_law_422 : decode b_L_law 422 = .ok (.iload_n 3, 1) := by decide +kernel
theorem d_L_law_423 : decode b_L_law 423 = .ok (.iconst 2, 1) := by decide +kernel
theorem d_L_law_424 : decode b_L_law 424 = .ok (.iadd, 1) := by decide +kernel
theorem d_L_law_425 : decode b_L_law 425 = .ok (.iaload, 1) := by decide +kernel
theorem d_L_law_426 : decode b_L_law 426 = .ok (.invokevirtual 80, 3) := by decide +kernel
theorem d_L_law_429 : decode b_L_law 429 = .ok (.aload_n 2, 1) := by decide +kernel
theorem d_L_law_430 : decode b_L_law 430 = .ok (.aload_n 0, 1) := by decide +kernel
theorem d_L_law_431 : decode b_L_law 431 = .ok (.iload_n 3, 1) := by decide +kernel
theorem d_L_law_432 : decode b_L_law 432 = .ok (.iconst 1, 1) := by decide +kernel
theorem d_L_law_433 : decode b_L_law 433 = .ok (.iadd, 1) := by decide +kernel
theorem d_L_law_434 : decode b_L_law 434 = .ok (.iaload, 1) := by decide +kernel
theorem d_L_law_435 : decode b_L_law 435 = .ok (.aload_n 0, 1) := by decide +kernel
theorem d_L_law_436 : decode b_L_law 436 = .ok (.iload_n 3, 1) := by decide +kernel
theorem d_L_law_437 : decode b_L_law 437 = .ok (.iconst 2, 1) := by decide +kernel
theorem d_L_law_438 : decode b_L_law 438 = .ok (.iadd, 1) := by decide +kernel
theorem d_L_law_439 : decode b_L_law 439 = .ok (.iaload, 1) := by decide +kernel
theorem d_L_law_440 : decode b_L_law 440 = .ok (.invokevirtual 82, 3) := by decide +kernel
theorem d_L_law_443 : decode b_L_law 443 = .ok (.if_icmp .eq 48, 3) := by decide +kernel
theorem d_L_law_446 : decode b_L_law 446 = .ok (.iconst 0, 1) := by decide +kernel
theorem d_L_law_447 : decode b_L_law 447 = .ok (.ireturn, 1) := by decide +kernel
theorem d_L_law_448 : decode b_L_law 448 = .ok (.aload_n 1, 1) := by decide +kernel
theorem d_L_law_449 : decode b_L_law 449 = .ok (.aload_n 0, 1) := by decide +kernel
theorem d_L_law_450 : decode b_L_law 450 = .ok (.iload_n 3, 1) := by decide +kernel
theorem d_L_law_451 : decode b_L_law 451 = .ok (.iconst 1, 1) := by decide +kernel
theorem d_L_law_452 : decode b_L_law 452 = .ok (.iadd, 1) := by decide +kernel
theorem d_L_law_453 : decode b_L_law 453 = .ok (.iaload, 1) := by decide +kernel
theorem d_L_law_454 : decode b_L_law 454 = .ok (.aload_n 0, 1) := by decide +kernel
theorem d_L_law_455 : decode b_L_law 455 = .ok (.iload_n 3, 1) := by decide +kernel
theorem d_L_law_456 : decode b_L_law 456 = .ok (.iconst 2, 1) := by decide +kernel
theorem d_L_law_457 : decode b_L_law 457 = .ok (.iadd, 1) := by decide +kernel
theorem d_L_law_458 : decode b_L_law 458 = .ok (.iaload, 1) := by decide +kernel
theorem d_L_law_459 : decode b_L_law 459 = .ok (.aload_n 0, 1) := by decide +kernel
theorem d_L_law_460 : decode b_L_law 460 = .ok (.iload_n 3, 1) := by decide +kernel
theorem d_L_law_461 : decode b_L_law 461 = .ok (.iconst 3, 1) := by decide +kernel
theorem d_L_law_462 : decode b_L_law 462 = .ok (.iadd, 1) := by decide +kernel
theorem d_L_law_463 : decode b_L_law 463 = .ok (.iaload, 1) := by decide +kernel
theorem d_L_law_464 : decode b_L_law 464 = .ok (.invokevirtual 83, 3) := by decide +kernel
theorem d_L_law_467 : decode b_L_law 467 = .ok (.aload_n 2, 1) := by decide +kernel
theorem d_L_law_468 : decode b_L_law 468 = .ok (.aload_n 0, 1) := by decide +kernel
theorem d_L_law_469 : decode b_L_law 469 = .ok (.iload_n 3, 1) := by decide +kernel
theorem d_L_law_470 : decode b_L_law 470 = .ok (.iconst 1, 1) := by decide +kernel
theorem d_L_law_471 : decode b_L_law 471 = .ok (.iadd, 1) := by decide +kernel
theorem d_L_law_472 : decode b_L_law 472 = .ok (.iaload, 1) := by decide +kernel
theorem d_L_law_473 : decode b_L_law 473 = .ok (.aload_n 0, 1) := by decide +kernel
theorem d_L_law_474 : decode b_L_law 474 = .ok (.iload_n 3, 1) := by decide +kernel
theorem d_L_law_475 : decode b_L_law 475 = .ok (.iconst 2, 1) := by decide +kernel
theorem d_L_law_476 : decode b_L_law 476 = .ok (.iadd, 1) := by decide +kernel
theorem d_L_law_477 : decode b_L_law 477 = .ok (.iaload, 1) := by decide +kernel
theorem d_L_law_478 : decode b_L_law 478 = .ok (.aload_n 0, 1) := by decide +kernel
theorem d_L_law_479 : decode b_L_law 479 = .ok (.iload_n 3, 1) := by decide +kernel
theorem d_L_law_480 : decode b_L_law 480 = .ok (.iconst 3, 1) := by decide +kernel
theorem d_L_law_481 : decode b_L_law 481 = .ok (.iadd, 1) := by decide +kernel
theorem d_L_law_482 : decode b_L_law 482 = .ok (.iaload, 1) := by decide +kernel
theorem d_L_law_483 : decode b_L_law 483 = .ok (.invokevirtual 86, 3) := by decide +kernel
theorem d_L_law_486 : decode b_L_law 486 = .ok (.if_icmp .eq 5, 3) := by decide +kernel
theorem d_L_law_489 : decode b_L_law 489 = .ok (.iconst 0, 1) := by decide +kernel
theorem d_L_law_490 : decode b_L_law 490 = .ok (.ireturn, 1) := by decide +kernel
theorem d_L_law_491 : decode b_L_law 491 = .ok (.iinc 3 4, 3) := by decide +kernel
theorem d_L_law_494 : decode b_L_law 494 = .ok (.goto (-466), 3) := by decide +kernel
theorem d_L_law_497 : decode b_L_law 497 = .ok (.iconst 1, 1) := by decide +kernel
theorem d_L_law_498 : decode b_L_law 498 = .ok (.ireturn, 1) := by decide +kernel
