theorem d_Y_interrupts_0 : decode b_Y_interrupts 0 = .ok (.aload_n 0, 1) := by decide +kernel
theorem d_Y_interrupts_1 : decode b_Y_interrupts 1 = .ok (.getfield 19, 3) := by decide +kernel
theorem d_Y_interrupts_4 : decode b_Y_interrupts 4 = .ok (.iload_n 1, 1) := by decide +kernel
theorem d_Y_interrupts_5 : decode b_Y_interrupts 5 = .ok (.bipush 7, 2) := by decide +kernel
theorem d_Y_interrupts_7 : decode b_Y_interrupts 7 = .ok (.iadd, 1) := by decide +kernel
theorem d_Y_interrupts_8 : decode b_Y_interrupts 8 = .ok (.iaload, 1) := by decide +kernel
theorem d_Y_interrupts_9 : decode b_Y_interrupts 9 = .ok (.ifCond .ne 16, 3) := by decide +kernel
theorem d_Y_interrupts_12 : decode b_Y_interrupts 12 = .ok (.aload_n 0, 1) := by decide +kernel
theorem d_Y_interrupts_13 : decode b_Y_interrupts 13 = .ok (.getfield 49, 3) := by decide +kernel
theorem d_Y_interrupts_16 : decode b_Y_interrupts 16 = .ok (.bipush 16, 2) := by decide +kernel
theorem d_Y_interrupts_18 : decode b_Y_interrupts 18 = .ok (.if_icmp .le 7, 3) := by decide +kernel
theorem d_Y_interrupts_21 : decode b_Y_interrupts 21 = .ok (.iconst 1, 1) := by decide +kernel
theorem d_Y_interrupts_22 : decode b_Y_interrupts 22 = .ok (.goto 4, 3) := by decide +kernel
theorem d_Y_interrupts_25 : decode b_Y_interrupts 25 = .ok (.iconst 0, 1) := by decide +kernel
theorem d_Y_interrupts_26 : decode b_Y_interrupts 26 = .ok (.istore_n 2, 1) := by decide +kernel
theorem d_Y_interrupts_27 : decode b_Y_interrupts 27 = .ok (.iload_n 1, 1) := by decide +kernel
theorem d_Y_interrupts_28 : decode b_Y_interrupts 28 = .ok (.ifCond .le 22, 3) := by decide +kernel
theorem d_Y_interrupts_31 : decode b_Y_interrupts 31 = .ok (.iload_n 2, 1) := by decide +kernel
theorem d_Y_interrupts_32 : decode b_Y_interrupts 32 = .ok (.ifCond .eq 16, 3) := by decide +kernel
theorem d_Y_interrupts_35 : decode b_Y_interrupts 35 = .ok (.aload_n 0, 1) := by decide +kernel
theorem d_Y_interrupts_36 : decode b_Y_interrupts 36 = .ok (.iload_n 1, 1) := by decide +kernel
theorem d_Y_interrupts_37 : decode b_Y_interrupts 37 = .ok (.iconst 3, 1) := by decide +kernel
theorem d_Y_interrupts_38 : decode b_Y_interrupts 38 = .ok (.invokevirtual 98, 3) := by decide +kernel
theorem d_Y_interrupts_41 : decode b_Y_interrupts 41 = .ok (.ifCond .lt 7, 3) := by decide +kernel
theorem d_Y_interrupts_44 : decode b_Y_interrupts 44 = .ok (.iconst 1, 1) := by decide +kernel
theorem d_Y_interrupts_45 : decode b_Y_interrupts 45 = .ok (.goto 4, 3) := by decide +kernel
theorem d_Y_interrupts_48 : decode b_Y_interrupts 48 = .ok (.iconst 0, 1) := by decide +kernel
theorem d_Y_interrupts_49 : decode b_Y_interrupts 49 = .ok (.ireturn, 1) := by decide +kernel
theorem d_Y_interrupts_50 : decode b_Y_interrupts 50 = .ok (.iload_n 2, 1) := by decide +kernel
theorem d_Y_interrupts_51 : decode b_Y_interrupts 51 = .ok (.ifCond .eq 10, 3) := by decide +kernel
theorem d_Y_interrupts_54 : decode b_Y_interrupts 54 = .ok (.aload_n 0, 1) := by decide +kernel
theorem d_Y_interrupts_55 : decode b_Y_interrupts 55 = .ok (.getfield 66, 3) := by decide +kernel
theorem d_Y_interrupts_58 : decode b_Y_interrupts 58 = .ok (.ifCond .ne 5, 3) := by decide +kernel
theorem d_Y_interrupts_61 : decode b_Y_interrupts 61 = .ok (.iconst 0, 1) := by decide +kernel
theorem d_Y_interrupts_62 : decode b_Y_interrupts 62 = .ok (.ireturn, 1) := by decide +kernel
theorem d_Y_interrupts_63 : decode b_Y_interrupts 63 = .ok (.aload_n 0, 1) := by decide +kernel
theorem d_Y_interrupts_64 : decode b_Y_interrupts 64 = .ok (.iconst 0, 1) := by decide +kernel
theorem d_Y_interrupts_65 : decode b_Y_interrupts 65 = .ok (.putfield 66, 3) := by decide +kernel
theorem d_Y_interrupts_68 : decode b_Y_interrupts 68 = .ok (.aload_n 0, 1) := by decide +kernel
theorem d_Y_interrupts_69 : decode b_Y_interrupts 69 = .ok (.iconst 3, 1) := by decide +kernel
theorem d_Y_interrupts_70 : decode b_Y_interrupts 70 = .ok (.invokevirtual 101, 3) := by decide +kernel
theorem d_Y_interrupts_73 : decode b_Y_interrupts 73 = .ok (.iconst 1, 1) := by decide +kernel
theorem d_Y_interrupts_74 : decode b_Y_interrupts 74 = .ok (.ireturn, 1) := by decide +kernel
theorem d_Y_found_0 : decode b_Y_found 0 = .ok (.iconst (-1), 1) := by decide +kernel
theorem d_Y_found_1 : decode b_Y_found 1 = .ok (.istore_n 3, 1) := by decide +kernel
theorem d_Y_found_2 : decode b_Y_found 2 = .ok (.iconst 0, 1) := by decide +kernel
theorem d_Y_found_3 : decode b_Y_found 3 = .ok (.istore 4, 2) := by decide +kernel
theorem d_Y_found_5 : decode b_Y_found 5 = .ok (.iload 4, 2) := by decide +kernel
theorem d_Y_found_7 : decode b_Y_found 7 = .ok (.aload_n 0, 1) := by decide +kernel
theorem d_Y_found_8 : decode b_Y_found 8 = .ok (.getfield 95, 3) := by decide +kernel
theorem d_Y_found_11 : decode b_Y_found 11 = .ok (.if_icmp .ge 48, 3) := by decide +kernel
theorem d_Y_found_14 : decode b_Y_found 14 = .ok (.aload_n 0, 1) := by decide +kernel
theorem d_Y_found_15 : decode b_Y_found 15 = .ok (.getfield 32, 3) := by decide +kernel
theorem d_Y_found_18 : decode b_Y_found 18 = .ok (.iload 4, 2) := by decide +kernel
theorem d_Y_found_20 : decode b_Y_found 20 = .ok (.laload, 1) := by decide +kernel
theorem d_Y_found_21 : decode b_Y_found 21 = .ok (.aload_n 0, 1) := by decide +kernel
theorem d_Y_found_22 : decode b_Y_found 22 = .ok (.getfield 19, 3) := by decide +kernel
theorem d_Y_found_25 : decode b_Y_found 25 = .ok (.iload_n 1, 1) := by decide +kernel
theorem d_Y_found_26 : decode b_Y_found 26 = .ok (.bipush 9, 2) := by decide +kernel
theorem d_Y_found_28 : decode b_Y_found 28 = .ok (.iadd, 1) := by decide +kernel
theorem d_Y_found_29 : decode b_Y_found 29 = .ok (.iaload, 1) := by decide +kernel
theorem d_Y_found_30 : decode b_Y_found 30 = .ok (.i2l, 1) := by decide +kernel
theorem d_Y_found_31 : decode b_Y_found 31 = .ok (.lcmp, 1) := by decide +kernel
theorem d_Y_found_32 : decode b_Y_found 32 = .ok (.ifCond .ne 19, 3) := by decide +kernel
theorem d_Y_found_35 : decode b_Y_found 35 = .ok (.aload_n 0, 1) := by decide +kernel
theorem d_Y_found_36 : decode b_Y_found 36 = .ok (.getfield 36, 3) := by decide +kernel
theorem d_Y_found_39 : decode b_Y_found 39 = .ok (.iload 4, 2) := by decide +kernel
theorem d_Y_found_41 : decode b_Y_found 41 = .ok (.iaload, 1) := by decide +kernel
theorem d_Y_found_42 : decode b_Y_found 42 = .ok (.iload_n 2, 1) := by decide +kernel
theorem d_Y_found_43 : decode b_Y_found 43 = .ok (.if_icmp .ne 8, 3) := by decide +kernel
theorem d_Y_found_46 : decode b_Y_found 46 = .ok (.iload 4, 2) := by decide +kernel
theorem d_Y_found_48 : decode b_Y_found 48 = .ok (.goto 4, 3) := by decide +kernel
theorem d_Y_found_51 : decode b_Y_found 51 = .ok (.iload_n 3, 1) := by decide +kernel
theorem d_Y_found_52 : decode b_Y_found 52 = .ok (.istore_n 3, 1) := by decide +kernel
theorem d_Y_found_53 : decode b_Y_found 53 = .ok (.iinc 4 1, 3) := by decide +kernel
theorem d_Y_found_56 : decode b_Y_found 56 = .ok (.goto (-51), 3) := by decide +kernel
theorem d_Y_found_59 : decode b_Y_found 59 = .ok (.iload_n 3, 1) := by decide +kernel
theorem d_Y_found_60 : decode b_Y_found 60 = .ok (.ireturn, 1) := by decide +kernel
theorem d_Y_writeEntry_0 : decode b_Y_writeEntry 0 = .ok (.aload_n 0, 1) := by decide +kernel
theorem d_Y_writeEntry_1 : decode b_Y_writeEntry 1 = .ok (.getfield 19, 3) := by decide +kernel
theorem d_Y_writeEntry_4 : decode b_Y_writeEntry 4 = .ok (.bipush 9, 2) := by decide +kernel
theorem d_Y_writeEntry_6 : decode b_Y_writeEntry 6 = .ok (.iaload, 1) := by decide +kernel
theorem d_Y_writeEntry_7 : decode b_Y_writeEntry 7 = .ok (.istore_n 2, 1) := by decide +kernel
theorem d_Y_writeEntry_8 : decode b_Y_writeEntry 8 = .ok (.aload_n 0, 1) := by decide +kernel
theorem d_Y_writeEntry_9 : decode b_Y_writeEntry 9 = .ok (.ldc2_w 89, 3) := by decide +kernel
theorem d_Y_writeEntry_12 : decode b_Y_writeEntry 12 = .ok (.iload_n 2, 1) := by decide +kernel
theorem d_Y_writeEntry_13 : decode b_Y_writeEntry 13 = .ok (.aload_n 0, 1) := by decide +kernel
theorem d_Y_writeEntry_14 : decode b_Y_writeEntry 14 = .ok (.getfield 75, 3) := by decide +kernel
theorem d_Y_writeEntry_17 : decode b_Y_writeEntry 17 = .ok (.isub, 1) := by decide +kernel
theorem d_Y_writeEntry_18 : decode b_Y_writeEntry 18 = .ok (.i2l, 1) := by decide +kernel
theorem d_Y_writeEntry_19 : decode b_Y_writeEntry 19 = .ok (.lmul, 1) := by decide +kernel
theorem d_Y_writeEntry_20 : decode b_Y_writeEntry 20 = .ok (.iload_n 1, 1) := by decide +kernel
theorem d_Y_writeEntry_21 : decode b_Y_writeEntry 21 = .ok (.i2l, 1) := by decide +kernel
theorem d_Y_writeEntry_22 : decode b_Y_writeEntry 22 = .ok (.ladd, 1) := by decide +kernel
theorem d_Y_writeEntry_23 : decode b_Y_writeEntry 23 = .ok (.invokevirtual 91, 3) := by decide +kernel
theorem d_Y_writeEntry_26 : decode b_Y_writeEntry 26 = .ok (.aload_n 0, 1) := by decide +kernel
theorem d_Y_writeEntry_27 : decode b_Y_writeEntry 27 = .ok (.iload_n 2, 1) := by decide +kernel
theorem d_Y_writeEntry_28 : decode b_Y_writeEntry 28 = .ok (.putfield 75, 3) := by decide +kernel
theorem d_Y_writeEntry_31 : decode b_Y_writeEntry 31 = .ok (.aload_n 0, 1) := by decide +kernel
theorem d_Y_writeEntry_32 : decode b_Y_writeEntry 32 = .ok (.aload_n 0, 1) := by decide +kernel
theorem d_Y_writeEntry_33 : decode b_Y_writeEntry 33 = .ok (.getfield 72, 3) := by decide +kernel
theorem d_Y_writeEntry_36 : decode b_Y_writeEntry 36 = .ok (.iconst 1, 1) := by decide +kernel
theorem d_Y_writeEntry_37 : decode b_Y_writeEntry 37 = .ok (.iadd, 1) := by decide +kernel
theorem d_Y_writeEntry_38 : decode b_Y_writeEntry 38 = .ok (.putfield 72, 3) := by decide +kernel
theorem d_Y_writeEntry_41 : decode b_Y_writeEntry 41 = .ok (.return_, 1) := by decide +kernel
theorem d_Y_writeNumber_0 : decode b_Y_writeNumber 0 = .ok (.lload_n 1, 1) := by decide +kernel
theorem d_Y_writeNumber_1 : decode b_Y_writeNumber 1 = .ok (.lstore_n 3, 1) := by decide +kernel
theorem d_Y_writeNumber_2 : decode b_Y_writeNumber 2 = .ok (.lload_n 3, 1) := by decide +kernel
theorem d_Y_writeNumber_3 : decode b_Y_writeNumber 3 = .ok (.ldc2_w 84, 3) := by decide +kernel
theorem d_Y_writeNumber_6 : decode b_Y_writeNumber 6 = .ok (.lcmp, 1) := by decide +kernel
theorem d_Y_writeNumber_7 : decode b_Y_writeNumber 7 = .ok (.ifCond .lt 26, 3) := by decide +kernel
theorem d_Y_writeNumber_10 : decode b_Y_writeNumber 10 = .ok (.aload_n 0, 1) := by decide +kernel
theorem d_Y_writeNumber_11 : decode b_Y_writeNumber 11 = .ok (.lload_n 3, 1) := by decide +kernel
theorem d_Y_writeNumber_12 : decode b_Y_writeNumber 12 = .ok (.ldc2_w 84, 3) := by decide +kernel
theorem d_Y_writeNumber_15 : decode b_Y_writeNumber 15 = .ok (.lrem, 1) := by decide +kernel
theorem d_Y_writeNumber_16 : decode b_Y_writeNumber 16 = .ok (.l2i, 1) := by decide +kernel
theorem d_Y_writeNumber_17 : decode b_Y_writeNumber 17 = .ok (.sipush 128, 3) := by decide +kernel
theorem d_Y_writeNumber_20 : decode b_Y_writeNumber 20 = .ok (.iadd, 1) := by decide +kernel
theorem d_Y_writeNumber_21 : decode b_Y_writeNumber 21 = .ok (.invokevirtual 86, 3) := by decide +kernel
theorem d_Y_writeNumber_24 : decode b_Y_writeNumber 24 = .ok (.lload_n 3, 1) := by decide +kernel
theorem d_Y_writeNumber_25 : decode b_Y_writeNumber 25 = .ok (.ldc2_w 84, 3) := by decide +kernel
theorem d_Y_writeNumber_28 : decode b_Y_writeNumber 28 = .ok (.ldiv, 1) := by decide +kernel
theorem d_Y_writeNumber_29 : decode b_Y_writeNumber 29 = .ok (.lstore_n 3, 1) := by decide +kernel
theorem d_Y_writeNumber_30 : decode b_Y_writeNumber 30 = .ok (.goto (-28), 3) := by decide +kernel
theorem d_Y_writeNumber_33 : decode b_Y_writeNumber 33 = .ok (.aload_n 0, 1) := by decide +kernel
theorem d_Y_writeNumber_34 : decode b_Y_writeNumber 34 = .ok (.lload_n 3, 1) := by decide +kernel
theorem d_Y_writeNumber_35 : decode b_Y_writeNumber 35 = .ok (.l2i, 1) := by decide +kernel
theorem d_Y_writeNumber_36 : decode b_Y_writeNumber 36 = .ok (.invokevirtual 86, 3) := by decide +kernel
theorem d_Y_writeNumber_39 : decode b_Y_writeNumber 39 = .ok (.return_, 1) := by decide +kernel
theorem d_Y_writeByte_0 : decode b_Y_writeByte 0 = .ok (.aload_n 0, 1) := by decide +kernel
theorem d_Y_writeByte_1 : decode b_Y_writeByte 1 = .ok (.getfield 25, 3) := by decide +kernel
theorem d_Y_writeByte_4 : decode b_Y_writeByte 4 = .ok (.aload_n 0, 1) := by decide +kernel
theorem d_Y_writeByte_5 : decode b_Y_writeByte 5 = .ok (.getfield 69, 3) := by decide +kernel
theorem d_Y_writeByte_8 : decode b_Y_writeByte 8 = .ok (.iload_n 1, 1) := by decide +kernel
theorem d_Y_writeByte_9 : decode b_Y_writeByte 9 = .ok (.iastore, 1) := by decide +kernel
theorem d_Y_writeByte_10 : decode b_Y_writeByte 10 = .ok (.aload_n 0, 1) := by decide +kernel
theorem d_Y_writeByte_11 : decode b_Y_writeByte 11 = .ok (.aload_n 0, 1) := by decide +kernel
theorem d_Y_writeByte_12 : decode b_Y_writeByte 12 = .ok (.getfield 69, 3) := by decide +kernel
theorem d_Y_writeByte_15 : decode b_Y_writeByte 15 = .ok (.iconst 1, 1) := by decide +kernel
theorem d_Y_writeByte_16 : decode b_Y_writeByte 16 = .ok (.iadd, 1) := by decide +kernel
theorem d_Y_writeByte_17 : decode b_Y_writeByte 17 = .ok (.putfield 69, 3) := by decide +kernel
theorem d_Y_writeByte_20 : decode b_Y_writeByte 20 = .ok (.aload_n 0, 1) := by decide +kernel
theorem d_Y_writeByte_21 : decode b_Y_writeByte 21 = .ok (.aload_n 0, 1) := by decide +kernel
theorem d_Y_writeByte_22 : decode b_Y_writeByte 22 = .ok (.getfield 28, 3) := by decide +kernel
theorem d_Y_writeByte_25 : decode b_Y_writeByte 25 = .ok (.iload_n 1, 1) := by decide +kernel
theorem d_Y_writeByte_26 : decode b_Y_writeByte 26 = .ok (.invokestatic 80, 3) := by decide +kernel
theorem d_Y_writeByte_29 : decode b_Y_writeByte 29 = .ok (.putfield 28, 3) := by decide +kernel
theorem d_Y_writeByte_32 : decode b_Y_writeByte 32 = .ok (.return_, 1) := by decide +kernel
theorem d_Y_mix_0 : decode b_Y_mix 0 = .ok (.iload_n 0, 1) := by decide +kernel
theorem d_Y_mix_1 : decode b_Y_mix 1 = .ok (.iload_n 1, 1) := by decide +kernel
theorem d_Y_mix_2 : decode b_Y_mix 2 = .ok (.ixor, 1) := by decide +kernel
theorem d_Y_mix_3 : decode b_Y_mix 3 = .ok (.ldc 79, 2) := by decide +kernel
theorem d_Y_mix_5 : decode b_Y_mix 5 = .ok (.imul, 1) := by decide +kernel
theorem d_Y_mix_6 : decode b_Y_mix 6 = .ok (.istore_n 2, 1) := by decide +kernel
theorem d_Y_mix_7 : decode b_Y_mix 7 = .ok (.iload_n 2, 1) := by decide +kernel
theorem d_Y_mix_8 : decode b_Y_mix 8 = .ok (.iload_n 2, 1) := by decide +kernel
theorem d_Y_mix_9 : decode b_Y_mix 9 = .ok (.bipush 13, 2) := by decide +kernel
theorem d_Y_mix_11 : decode b_Y_mix 11 = .ok (.iushr, 1) := by decide +kernel
theorem d_Y_mix_12 : decode b_Y_mix 12 = .ok (.ixor, 1) := by decide +kernel
theorem d_Y_mix_13 : decode b_Y_mix 13 = .ok (.ireturn, 1) := by decide +kernel
theorem d_Y_perform_0 : decode b_Y_perform 0 = .ok (.iload_n 1, 1) := by decide +kernel
theorem d_Y_perform_1 : decode b_Y_perform 1 = .ok (.iload_n 3, 1) := by decide +kernel
theorem d_Y_perform_2 : decode b_Y_perform 2 = .ok (.iconst 4, 1) := by decide +kernel
theorem d_Y_perform_3 : decode b_Y_perform 3 = .ok (.invokestatic 108, 3) := by decide +kernel
theorem d_Y_perform_6 : decode b_Y_perform 6 = .ok (.iadd, 1) := by decide +kernel
theorem d_Y_perform_7 : decode b_Y_perform 7 = .ok (.istore 5, 2) := by decide +kernel
theorem d_Y_perform_9 : decode b_Y_perform 9 = .ok (.aload_n 0, 1) := by decide +kernel
theorem d_Y_perform_10 : decode b_Y_perform 10 = .ok (.getfield 19, 3) := by decide +kernel
theorem d_Y_perform_13 : decode b_Y_perform 13 = .ok (.iload_n 1, 1) := by decide +kernel
theorem d_Y_perform_14 : decode b_Y_perform 14 = .ok (.iload 4, 2) := by decide +kernel
theorem d_Y_perform_16 : decode b_Y_perform 16 = .ok (.iconst 4, 1) := by decide +kernel
theorem d_Y_perform_17 : decode b_Y_perform 17 = .ok (.invokestatic 108, 3) := by decide +kernel
theorem d_Y_perform_20 : decode b_Y_perform 20 = .ok (.iadd, 1) := by decide +kernel
theorem d_Y_perform_21 : decode b_Y_perform 21 = .ok (.iaload, 1) := by decide +kernel
theorem d_Y_perform_22 : decode b_Y_perform 22 = .ok (.istore 6, 2) := by decide +kernel
theorem d_Y_perform_24 : decode b_Y_perform 24 = .ok (.iload_n 1, 1) := by decide +kernel
theorem d_Y_perform_25 : decode b_Y_perform 25 = .ok (.bipush 16, 2) := by decide +kernel
theorem d_Y_perform_27 : decode b_Y_perform 27 = .ok (.iadd, 1) := by decide +kernel
theorem d_Y_perform_28 : decode b_Y_perform 28 = .ok (.iload 6, 2) := by decide +kernel
theorem d_Y_perform_30 : decode b_Y_perform 30 = .ok (.bipush 32, 2) := by decide +kernel
theorem d_Y_perform_32 : decode b_Y_perform 32 = .ok (.invokestatic 108, 3) := by decide +kernel
theorem d_Y_perform_35 : decode b_Y_perform 35 = .ok (.iadd, 1) := by decide +kernel
theorem d_Y_perform_36 : decode b_Y_perform 36 = .ok (.istore 7, 2) := by decide +kernel
theorem d_Y_perform_38 : decode b_Y_perform 38 = .ok (.aload_n 0, 1) := by decide +kernel
theorem d_Y_perform_39 : decode b_Y_perform 39 = .ok (.getfield 19, 3) := by decide +kernel
theorem d_Y_perform_42 : decode b_Y_perform 42 = .ok (.iload_n 1, 1) := by decide +kernel
theorem d_Y_perform_43 : decode b_Y_perform 43 = .ok (.iconst 4, 1) := by decide +kernel
theorem d_Y_perform_44 : decode b_Y_perform 44 = .ok (.iadd, 1) := by decide +kernel
theorem d_Y_perform_45 : decode b_Y_perform 45 = .ok (.aload_n 0, 1) := by decide +kernel
theorem d_Y_perform_46 : decode b_Y_perform 46 = .ok (.getfield 19, 3) := by decide +kernel
theorem d_Y_perform_49 : decode b_Y_perform 49 = .ok (.iload_n 1, 1) := by decide +kernel
theorem d_Y_perform_50 : decode b_Y_perform 50 = .ok (.iconst 4, 1) := by decide +kernel
theorem d_Y_perform_51 : decode b_Y_perform 51 = .ok (.iadd, 1) := by decide +kernel
theorem d_Y_perform_52 : decode b_Y_perform 52 = .ok (.iaload, 1) := by decide +kernel
theorem d_Y_perform_53 : decode b_Y_perform 53 = .ok (.iconst 1, 1) := by decide +kernel
theorem d_Y_perform_54 : decode b_Y_perform 54 = .ok (.iadd, 1) := by decide +kernel
theorem d_Y_perform_55 : decode b_Y_perform 55 = .ok (.iastore, 1) := by decide +kernel
theorem d_Y_perform_56 : decode b_Y_perform 56 = .ok (.iload_n 2, 1) := by decide +kernel
theorem d_Y_perform_57 : decode b_Y_perform 57 = .ok (.ifCond .ne 12, 3) := by decide +kernel
theorem d_Y_perform_60 : decode b_Y_perform 60 = .ok (.aload_n 0, 1) := by decide +kernel
theorem d_Y_perform_61 : decode b_Y_perform 61 = .ok (.getfield 19, 3) := by decide +kernel
theorem d_Y_perform_64 : decode b_Y_perform 64 = .ok (.iload 5, 2) := by decide +kernel
theorem d_Y_perform_66 : decode b_Y_perform 66 = .ok (.iload 4, 2) := by decide +kernel
theorem d_Y_perform_68 : decode b_Y_perform 68 = .ok (.iastore, 1) := by decide +kernel
theorem d_Y_perform_69 : decode b_Y_perform 69 = .ok (.iload_n 2, 1) := by decide +kernel
theorem d_Y_perform_70 : decode b_Y_perform 70 = .ok (.iconst 1, 1) := by decide +kernel
theorem d_Y_perform_71 : decode b_Y_perform 71 = .ok (.if_icmp .ne 20, 3) := by decide +kernel
theorem d_Y_perform_74 : decode b_Y_perform 74 = .ok (.aload_n 0, 1) := by decide +kernel
theorem d_Y_perform_75 : decode b_Y_perform 75 = .ok (.getfield 19, 3) := by decide +kernel
theorem d_Y_perform_78 : decode b_Y_perform 78 = .ok (.iload 5, 2) := by decide +kernel
theorem d_Y_perform_80 : decode b_Y_perform 80 = .ok (.aload_n 0, 1) := by decide +kernel
theorem d_Y_perform_81 : decode b_Y_perform 81 = .ok (.getfield 19, 3) := by decide +kernel
theorem d_Y_perform_84 : decode b_Y_perform 84 = .ok (.iload 5, 2) := by decide +kernel
theorem d_Y_perform_86 : decode b_Y_perform 86 = .ok (.iaload, 1) := by decide +kernel
theorem d_Y_perform_87 : decode b_Y_perform 87 = .ok (.iload 6, 2) := by decide +kernel
theorem d_Y_perform_89 : decode b_Y_perform 89 = .ok (.iadd, 1) := by decide +kernel
theorem d_Y_perform_90 : decode b_Y_perform 90 = .ok (.iastore, 1) := by decide +kernel
theorem d_Y_perform_91 : decode b_Y_perform 91 = .ok (.iload_n 2, 1) := by decide +kernel
theorem d_Y_perform_92 : decode b_Y_perform 92 = .ok (.iconst 2, 1) := by decide +kernel
theorem d_Y_perform_93 : decode b_Y_perform 93 = .ok (.if_icmp .ne 20, 3) := by decide +kernel
theorem d_Y_perform_96 : decode b_Y_perform 96 = .ok (.aload_n 0, 1) := by decide +kernel
theorem d_Y_perform_97 : decode b_Y_perform 97 = .ok (.getfield 19, 3) := by decide +kernel
theorem d_Y_perform_100 : decode b_Y_perform 100 = .ok (.iload 5, 2) := by decide +kernel
theorem d_Y_perform_102 : decode b_Y_perform 102 = .ok (.aload_n 0, 1) := by decide +kernel
theorem d_Y_perform_103 : decode b_Y_perform 103 = .ok (.getfield 19, 3) := by decide +kernel
theorem d_Y_perform_106 : decode b_Y_perform 106 = .ok (.iload 5, 2) := by decide +kernel
theorem d_Y_perform_108 : decode b_Y_perform 108 = .ok (.iaload, 1) := by decide +kernel
theorem d_Y_perform_109 : decode b_Y_perform 109 = .ok (.iload 6, 2) := by decide +kernel
theorem d_Y_perform_111 : decode b_Y_perform 111 = .ok (.isub, 1) := by decide +kernel
theorem d_Y_perform_112 : decode b_Y_perform 112 = .ok (.iastore, 1) := by decide +kernel
theorem d_Y_perform_113 : decode b_Y_perform 113 = .ok (.iload_n 2, 1) := by decide +kernel
theorem d_Y_perform_114 : decode b_Y_perform 114 = .ok (.iconst 3, 1) := by decide +kernel
theorem d_Y_perform_115 : decode b_Y_perform 115 = .ok (.if_icmp .ne 17, 3) := by decide +kernel
theorem d_Y_perform_118 : decode b_Y_perform 118 = .ok (.aload_n 0, 1) := by decide +kernel
theorem d_Y_perform_119 : decode b_Y_perform 119 = .ok (.getfield 19, 3) := by decide +kernel
theorem d_Y_perform_122 : decode b_Y_perform 122 = .ok (.iload 5, 2) := by decide +kernel
theorem d_Y_perform_124 : decode b_Y_perform 124 = .ok (.aload_n 0, 1) := by decide +kernel
theorem d_Y_perform_125 : decode b_Y_perform 125 = .ok (.getfield 19, 3) := by decide +kernel
theorem d_Y_perform_128 : decode b_Y_perform 128 = .ok (.iload 7, 2) := by decide +kernel
theorem d_Y_perform_130 : decode b_Y_perform 130 = .ok (.iaload, 1) := by decide +kernel
theorem d_Y_perform_131 : decode b_Y_perform 131 = .ok (.iastore, 1) := by decide +kernel
theorem d_Y_perform_132 : decode b_Y_perform 132 = .ok (.iload_n 2, 1) := by decide +kernel
theorem d_Y_perform_133 : decode b_Y_perform 133 = .ok (.iconst 4, 1) := by decide +kernel
theorem d_Y_perform_134 : decode b_Y_perform 134 = .ok (.if_icmp .ne 17, 3) := by decide +kernel
theorem d_Y_perform_137 : decode b_Y_perform 137 = .ok (.aload_n 0, 1) := by decide +kernel
theorem d_Y_perform_138 : decode b_Y_perform 138 = .ok (.getfield 19, 3) := by decide +kernel
theorem d_Y_perform_141 : decode b_Y_perform 141 = .ok (.iload 7, 2) := by decide +kernel
theorem d_Y_perform_143 : decode b_Y_perform 143 = .ok (.aload_n 0, 1) := by decide +kernel
theorem d_Y_perform_144 : decode b_Y_perform 144 = .ok (.getfield 19, 3) := by decide +kernel
theorem d_Y_perform_147 : decode b_Y_perform 147 = .ok (.iload 5, 2) := by decide +kernel
theorem d_Y_perform_149 : decode b_Y_perform 149 = .ok (.iaload, 1) := by decide +kernel
theorem d_Y_perform_150 : decode b_Y_perform 150 = .ok (.iastore, 1) := by decide +kernel
theorem d_Y_perform_151 : decode b_Y_perform 151 = .ok (.iload_n 2, 1) := by decide +kernel
theorem d_Y_perform_152 : decode b_Y_perform 152 = .ok (.iconst 5, 1) := by decide +kernel
theorem d_Y_perform_153 : decode b_Y_perform 153 = .ok (.if_icmp .eq 19, 3) := by decide +kernel
theorem d_Y_perform_156 : decode b_Y_perform 156 = .ok (.iload_n 2, 1) := by decide +kernel
theorem d_Y_perform_157 : decode b_Y_perform 157 = .ok (.bipush 6, 2) := by decide +kernel
theorem d_Y_perform_159 : decode b_Y_perform 159 = .ok (.if_icmp .ne 23, 3) := by decide +kernel
theorem d_Y_perform_162 : decode b_Y_perform 162 = .ok (.aload_n 0, 1) := by decide +kernel
theorem d_Y_perform_163 : decode b_Y_perform 163 = .ok (.getfield 19, 3) := by decide +kernel
theorem d_Y_perform_166 : decode b_Y_perform 166 = .ok (.iload 5, 2) := by decide +kernel
theorem d_Y_perform_168 : decode b_Y_perform 168 = .ok (.iaload, 1) := by decide +kernel
theorem d_Y_perform_169 : decode b_Y_perform 169 = .ok (.ifCond .ne 13, 3) := by decide +kernel
theorem d_Y_perform_172 : decode b_Y_perform 172 = .ok (.aload_n 0, 1) := by decide +kernel
theorem d_Y_perform_173 : decode b_Y_perform 173 = .ok (.getfield 19, 3) := by decide +kernel
theorem d_Y_perform_176 : decode b_Y_perform 176 = .ok (.iload_n 1, 1) := by decide +kernel
theorem d_Y_perform_177 : decode b_Y_perform 177 = .ok (.iconst 4, 1) := by decide +kernel
theorem d_Y_perform_178 : decode b_Y_perform 178 = .ok (.iadd, 1) := by decide +kernel
theorem d_Y_perform_179 : decode b_Y_perform 179 = .ok (.iload 4, 2) := by decide +kernel
theorem d_Y_perform_181 : decode b_Y_perform 181 = .ok (.iastore, 1) := by decide +kernel
theorem d_Y_perform_182 : decode b_Y_perform 182 = .ok (.iload_n 2, 1) := by decide +kernel
theorem d_Y_perform_183 : decode b_Y_perform 183 = .ok (.bipush 7, 2) := by decide +kernel
theorem d_Y_perform_185 : decode b_Y_perform 185 = .ok (.if_icmp .ne 15, 3) := by decide +kernel
theorem d_Y_perform_188 : decode b_Y_perform 188 = .ok (.aload_n 0, 1) := by decide +kernel
theorem d_Y_perform_189 : decode b_Y_perform 189 = .ok (.getfield 19, 3) := by decide +kernel
theorem d_Y_perform_192 : decode b_Y_perform 192 = .ok (.iload 5, 2) := by decide +kernel
theorem d_Y_perform_194 : decode b_Y_perform 194 = .ok (.aload_n 0, 1) := by decide +kernel
theorem d_Y_perform_195 : decode b_Y_perform 195 = .ok (.iload_n 1, 1) := by decide +kernel
theorem d_Y_perform_196 : decode b_Y_perform 196 = .ok (.invokevirtual 111, 3) := by decide +kernel
theorem d_Y_perform_199 : decode b_Y_perform 199 = .ok (.iastore, 1) := by decide +kernel
theorem d_Y_perform_200 : decode b_Y_perform 200 = .ok (.iload_n 2, 1) := by decide +kernel
theorem d_Y_perform_201 : decode b_Y_perform 201 = .ok (.bipush 8, 2) := by decide +kernel
theorem d_Y_perform_203 : decode b_Y_perform 203 = .ok (.if_icmp .ne 15, 3) := by decide +kernel
theorem d_Y_perform_206 : decode b_Y_perform 206 = .ok (.aload_n 0, 1) := by decide +kernel
theorem d_Y_perform_207 : decode b_Y_perform 207 = .ok (.getfield 19, 3) := by decide +kernel
theorem d_Y_perform_210 : decode b_Y_perform 210 = .ok (.iload 5, 2) := by decide +kernel
theorem d_Y_perform_212 : decode b_Y_perform 212 = .ok (.aload_n 0, 1) := by decide +kernel
theorem d_Y_perform_213 : decode b_Y_perform 213 = .ok (.iload_n 1, 1) := by decide +kernel
theorem d_Y_perform_214 : decode b_Y_perform 214 = .ok (.invokevirtual 115, 3) := by decide +kernel
theorem d_Y_perform_217 : decode b_Y_perform 217 = .ok (.iastore, 1) := by decide +kernel
theorem d_Y_perform_218 : decode b_Y_perform 218 = .ok (.iload_n 2, 1) := by decide +kernel
theorem d_Y_perform_219 : decode b_Y_perform 219 = .ok (.bipush 9, 2) := by decide +kernel
theorem d_Y_perform_221 : decode b_Y_perform 221 = .ok (.if_icmp .ne 47, 3) := by decide +kernel
theorem d_Y_perform_224 : decode b_Y_perform 224 = .ok (.aload_n 0, 1) := by decide +kernel
theorem d_Y_perform_225 : decode b_Y_perform 225 = .ok (.getfield 19, 3) := by decide +kernel
theorem d_Y_perform_228 : decode b_Y_perform 228 = .ok (.iload_n 1, 1) := by decide +kernel
theorem d_Y_perform_229 : decode b_Y_perform 229 = .ok (.bipush 11, 2) := by decide +kernel
theorem d_Y_perform_231 : decode b_Y_perform 231 = .ok (.iadd, 1) := by decide +kernel
theorem d_Y_perform_232 : decode b_Y_perform 232 = .ok (.aload_n 0, 1) := by decide +kernel
theorem d_Y_perform_233 : decode b_Y_perform 233 = .ok (.getfield 19, 3) := by decide +kernel
theorem d_Y_perform_236 : decode b_Y_perform 236 = .ok (.iload_n 1, 1) := by decide +kernel
theorem d_Y_perform_237 : decode b_Y_perform 237 = .ok (.bipush 11, 2) := by decide +kernel
theorem d_Y_perform_239 : decode b_Y_perform 239 = .ok (.iadd, 1) := by decide +kernel
theorem d_Y_perform_240 : decode b_Y_perform 240 = .ok (.iaload, 1) := by decide +kernel
theorem d_Y_perform_241 : decode b_Y_perform 241 = .ok (.ldc 118, 2) := by decide +kernel
theorem d_Y_perform_243 : decode b_Y_perform 243 = .ok (.imul, 1) := by decide +kernel
theorem d_Y_perform_244 : decode b_Y_perform 244 = .ok (.sipush 12345, 3) := by decide +kernel
theorem d_Y_perform_247 : decode b_Y_perform 247 = .ok (.iadd, 1) := by decide +kernel
theorem d_Y_perform_248 : decode b_Y_perform 248 = .ok (.iastore, 1) := by decide +kernel
theorem d_Y_perform_249 : decode b_Y_perform 249 = .ok (.aload_n 0, 1) := by decide +kernel
theorem d_Y_perform_250 : decode b_Y_perform 250 = .ok (.getfield 19, 3) := by decide +kernel
theorem d_Y_perform_253 : decode b_Y_perform 253 = .ok (.iload 5, 2) := by decide +kernel
theorem d_Y_perform_255 : decode b_Y_perform 255 = .ok (.aload_n 0, 1) := by decide +kernel
theorem d_Y_perform_256 : decode b_Y_perform 256 = .ok (.getfield 19, 3) := by decide +kernel
theorem d_Y_perform_259 : decode b_Y_perform 259 = .ok (.iload_n 1, 1) := by decide +kernel
theorem d_Y_perform_260 : decode b_Y_perform 260 = .ok (.bipush 11, 2) := by decide +kernel
theorem d_Y_perform_262 : decode b_Y_perform 262 = .ok (.iadd, 1) := by decide +kernel
theorem d_Y_perform_263 : decode b_Y_perform 263 = .ok (.iaload, 1) := by decide +kernel
theorem d_Y_perform_264 : decode b_Y_perform 264 = .ok (.bipush 16, 2) := by decide +kernel
theorem d_Y_perform_266 : decode b_Y_perform 266 = .ok (.iushr, 1) := by decide +kernel
theorem d_Y_perform_267 : decode b_Y_perform 267 = .ok (.iastore, 1) := by decide +kernel
theorem d_Y_perform_268 : decode b_Y_perform 268 = .ok (.iload_n 2, 1) := by decide +kernel
theorem d_Y_perform_269 : decode b_Y_perform 269 = .ok (.bipush 10, 2) := by decide +kernel
theorem d_Y_perform_271 : decode b_Y_perform 271 = .ok (.if_icmp .ne 30, 3) := by decide +kernel
theorem d_Y_perform_274 : decode b_Y_perform 274 = .ok (.aload_n 0, 1) := by decide +kernel
theorem d_Y_perform_275 : decode b_Y_perform 275 = .ok (.getfield 19, 3) := by decide +kernel
theorem d_Y_perform_278 : decode b_Y_perform 278 = .ok (.iload_n 1, 1) := by decide +kernel
theorem d_Y_perform_279 : decode b_Y_perform 279 = .ok (.iconst 5, 1) := by decide +kernel
theorem d_Y_perform_280 : decode b_Y_perform 280 = .ok (.iadd, 1) := by decide +kernel
theorem d_Y_perform_281 : decode b_Y_perform 281 = .ok (.aload_n 0, 1) := by decide +kernel
theorem d_Y_perform_282 : decode b_Y_perform 282 = .ok (.getfield 19, 3) := by decide +kernel
theorem d_Y_perform_285 : decode b_Y_perform 285 = .ok (.iload_n 1, 1) := by decide +kernel
theorem d_Y_perform_286 : decode b_Y_perform 286 = .ok (.iconst 5, 1) := by decide +kernel
theorem d_Y_perform_287 : decode b_Y_perform 287 = .ok (.iadd, 1) := by decide +kernel
theorem d_Y_perform_288 : decode b_Y_perform 288 = .ok (.iaload, 1) := by decide +kernel
theorem d_Y_perform_289 : decode b_Y_perform 289 = .ok (.aload_n 0, 1) := by decide +kernel
theorem d_Y_perform_290 : decode b_Y_perform 290 = .ok (.getfield 19, 3) := by decide +kernel
theorem d_Y_perform_293 : decode b_Y_perform 293 = .ok (.iload 5, 2) := by decide +kernel
theorem d_Y_perform_295 : decode b_Y_perform 295 = .ok (.iaload, 1) := by decide +kernel
theorem d_Y_perform_296 : decode b_Y_perform 296 = .ok (.ixor, 1) := by decide +kernel
theorem d_Y_perform_297 : decode b_Y_perform 297 = .ok (.ldc 79, 2) := by decide +kernel
theorem d_Y_perform_299 : decode b_Y_perform 299 = .ok (.imul, 1) := by decide +kernel
theorem d_Y_perform_300 : decode b_Y_perform 300 = .ok (.iastore, 1) := by decide +kernel
theorem d_Y_perform_301 : decode b_Y_perform 301 = .ok (.iload_n 2, 1) := by decide +kernel
theorem d_Y_perform_302 : decode b_Y_perform 302 = .ok (.bipush 11, 2) := by decide +kernel
theorem d_Y_perform_304 : decode b_Y_perform 304 = .ok (.if_icmp .ne 43, 3) := by decide +kernel
theorem d_Y_perform_307 : decode b_Y_perform 307 = .ok (.aload_n 0, 1) := by decide +kernel
theorem d_Y_perform_308 : decode b_Y_perform 308 = .ok (.getfield 19, 3) := by decide +kernel
theorem d_Y_perform_311 : decode b_Y_perform 311 = .ok (.iload_n 1, 1) := by decide +kernel
theorem d_Y_perform_312 : decode b_Y_perform 312 = .ok (.bipush 7, 2) := by decide +kernel
theorem d_Y_perform_314 : decode b_Y_perform 314 = .ok (.iadd, 1) := by decide +kernel
theorem d_Y_perform_315 : decode b_Y_perform 315 = .ok (.iaload, 1) := by decide +kernel
theorem d_Y_perform_316 : decode b_Y_perform 316 = .ok (.iconst 1, 1) := by decide +kernel
theorem d_Y_perform_317 : decode b_Y_perform 317 = .ok (.if_icmp .ne 30, 3) := by decide +kernel
theorem d_Y_perform_320 : decode b_Y_perform 320 = .ok (.aload_n 0, 1) := by decide +kernel
theorem d_Y_perform_321 : decode b_Y_perform 321 = .ok (.getfield 19, 3) := by decide +kernel
theorem d_Y_perform_324 : decode b_Y_perform 324 = .ok (.iload_n 1, 1) := by decide +kernel
theorem d_Y_perform_325 : decode b_Y_perform 325 = .ok (.iconst 4, 1) := by decide +kernel
theorem d_Y_perform_326 : decode b_Y_perform 326 = .ok (.iadd, 1) := by decide +kernel
theorem d_Y_perform_327 : decode b_Y_perform 327 = .ok (.aload_n 0, 1) := by decide +kernel
theorem d_Y_perform_328 : decode b_Y_perform 328 = .ok (.getfield 19, 3) := by decide +kernel
theorem d_Y_perform_331 : decode b_Y_perform 331 = .ok (.iload_n 1, 1) := by decide +kernel
theorem d_Y_perform_332 : decode b_Y_perform 332 = .ok (.bipush 10, 2) := by decide +kernel
theorem d_Y_perform_334 : decode b_Y_perform 334 = .ok (.iadd, 1) := by decide +kernel
theorem d_Y_perform_335 : decode b_Y_perform 335 = .ok (.iaload, 1) := by decide +kernel
theorem d_Y_perform_336 : decode b_Y_perform 336 = .ok (.iastore, 1) := by decide +kernel
theorem d_Y_perform_337 : decode b_Y_perform 337 = .ok (.aload_n 0, 1) := by decide +kernel
theorem d_Y_perform_338 : decode b_Y_perform 338 = .ok (.getfield 19, 3) := by decide +kernel
theorem d_Y_perform_341 : decode b_Y_perform 341 = .ok (.iload_n 1, 1) := by decide +kernel
theorem d_Y_perform_342 : decode b_Y_perform 342 = .ok (.bipush 7, 2) := by decide +kernel
theorem d_Y_perform_344 : decode b_Y_perform 344 = .ok (.iadd, 1) := by decide +kernel
theorem d_Y_perform_345 : decode b_Y_perform 345 = .ok (.iconst 0, 1) := by decide +kernel
theorem d_Y_perform_346 : decode b_Y_perform 346 = .ok (.iastore, 1) := by decide +kernel
theorem d_Y_perform_347 : decode b_Y_perform 347 = .ok (.iload_n 2, 1) := by decide +kernel
theorem d_Y_perform_348 : decode b_Y_perform 348 = .ok (.bipush 12, 2) := by decide +kernel
theorem d_Y_perform_350 : decode b_Y_perform 350 = .ok (.if_icmp .ne 13, 3) := by decide +kernel
theorem d_Y_perform_353 : decode b_Y_perform 353 = .ok (.aload_n 0, 1) := by decide +kernel
theorem d_Y_perform_354 : decode b_Y_perform 354 = .ok (.getfield 19, 3) := by decide +kernel
theorem d_Y_perform_357 : decode b_Y_perform 357 = .ok (.iload_n 1, 1) := by decide +kernel
theorem d_Y_perform_358 : decode b_Y_perform 358 = .ok (.bipush 8, 2) := by decide +kernel
theorem d_Y_perform_360 : decode b_Y_perform 360 = .ok (.iadd, 1) := by decide +kernel
theorem d_Y_perform_361 : decode b_Y_perform 361 = .ok (.iconst 1, 1) := by decide +kernel
theorem d_Y_perform_362 : decode b_Y_perform 362 = .ok (.iastore, 1) := by decide +kernel
theorem d_Y_perform_363 : decode b_Y_perform 363 = .ok (.return_, 1) := by decide +kernel
theorem d_Y_mod_0 : decode b_Y_mod 0 = .ok (.iload_n 0, 1) := by decide +kernel
theorem d_Y_mod_1 : decode b_Y_mod 1 = .ok (.iload_n 1, 1) := by decide +kernel
theorem d_Y_mod_2 : decode b_Y_mod 2 = .ok (.irem, 1) := by decide +kernel
theorem d_Y_mod_3 : decode b_Y_mod 3 = .ok (.istore_n 2, 1) := by decide +kernel
theorem d_Y_mod_4 : decode b_Y_mod 4 = .ok (.iload_n 2, 1) := by decide +kernel
theorem d_Y_mod_5 : decode b_Y_mod 5 = .ok (.ifCond .ge 9, 3) := by decide +kernel
theorem d_Y_mod_8 : decode b_Y_mod 8 = .ok (.iload_n 2, 1) := by decide +kernel
theorem d_Y_mod_9 : decode b_Y_mod 9 = .ok (.iload_n 1, 1) := by decide +kernel
theorem d_Y_mod_10 : decode b_Y_mod 10 = .ok (.iadd, 1) := by decide +kernel
theorem d_Y_mod_11 : decode b_Y_mod 11 = .ok (.goto 4, 3) := by decide +kernel
theorem d_Y_mod_14 : decode b_Y_mod 14 = .ok (.iload_n 2, 1) := by decide +kernel
theorem d_Y_mod_15 : decode b_Y_mod 15 = .ok (.ireturn, 1) := by decide +kernel
theorem d_Y_inputFor_0 : decode b_Y_inputFor 0 = .ok (.iload_n 1, 1) := by decide +kernel
theorem d_Y_inputFor_1 : decode b_Y_inputFor 1 = .ok (.ifCond .le 28, 3) := by decide +kernel
theorem d_Y_inputFor_4 : decode b_Y_inputFor 4 = .ok (.aload_n 0, 1) := by decide +kernel
theorem d_Y_inputFor_5 : decode b_Y_inputFor 5 = .ok (.iload_n 1, 1) := by decide +kernel
theorem d_Y_inputFor_6 : decode b_Y_inputFor 6 = .ok (.iconst 1, 1) := by decide +kernel
theorem d_Y_inputFor_7 : decode b_Y_inputFor 7 = .ok (.invokevirtual 98, 3) := by decide +kernel
theorem d_Y_inputFor_10 : decode b_Y_inputFor 10 = .ok (.ifCond .lt 17, 3) := by decide +kernel
theorem d_Y_inputFor_13 : decode b_Y_inputFor 13 = .ok (.aload_n 0, 1) := by decide +kernel
theorem d_Y_inputFor_14 : decode b_Y_inputFor 14 = .ok (.getfield 39, 3) := by decide +kernel
theorem d_Y_inputFor_17 : decode b_Y_inputFor 17 = .ok (.aload_n 0, 1) := by decide +kernel
theorem d_Y_inputFor_18 : decode b_Y_inputFor 18 = .ok (.iload_n 1, 1) := by decide +kernel
theorem d_Y_inputFor_19 : decode b_Y_inputFor 19 = .ok (.iconst 1, 1) := by decide +kernel
theorem d_Y_inputFor_20 : decode b_Y_inputFor 20 = .ok (.invokevirtual 98, 3) := by decide +kernel
theorem d_Y_inputFor_23 : decode b_Y_inputFor 23 = .ok (.iaload, 1) := by decide +kernel
theorem d_Y_inputFor_24 : decode b_Y_inputFor 24 = .ok (.goto 4, 3) := by decide +kernel
theorem d_Y_inputFor_27 : decode b_Y_inputFor 27 = .ok (.iconst 0, 1) := by decide +kernel
theorem d_Y_inputFor_28 : decode b_Y_inputFor 28 = .ok (.ireturn, 1) := by decide +kernel
theorem d_Y_inputFor_29 : decode b_Y_inputFor 29 = .ok (.aload_n 0, 1) := by decide +kernel
theorem d_Y_inputFor_30 : decode b_Y_inputFor 30 = .ok (.getfield 63, 3) := by decide +kernel
theorem d_Y_inputFor_33 : decode b_Y_inputFor 33 = .ok (.ifCond .ne 5, 3) := by decide +kernel
theorem d_Y_inputFor_36 : decode b_Y_inputFor 36 = .ok (.iconst 0, 1) := by decide +kernel
theorem d_Y_inputFor_37 : decode b_Y_inputFor 37 = .ok (.ireturn, 1) := by decide +kernel
theorem d_Y_inputFor_38 : decode b_Y_inputFor 38 = .ok (.aload_n 0, 1) := by decide +kernel
theorem d_Y_inputFor_39 : decode b_Y_inputFor 39 = .ok (.getfield 22, 3) := by decide +kernel
theorem d_Y_inputFor_42 : decode b_Y_inputFor 42 = .ok (.iconst 0, 1) := by decide +kernel
theorem d_Y_inputFor_43 : decode b_Y_inputFor 43 = .ok (.iaload, 1) := by decide +kernel
theorem d_Y_inputFor_44 : decode b_Y_inputFor 44 = .ok (.istore_n 2, 1) := by decide +kernel
theorem d_Y_inputFor_45 : decode b_Y_inputFor 45 = .ok (.aload_n 0, 1) := by decide +kernel
theorem d_Y_inputFor_46 : decode b_Y_inputFor 46 = .ok (.aload_n 0, 1) := by decide +kernel
theorem d_Y_inputFor_47 : decode b_Y_inputFor 47 = .ok (.getfield 63, 3) := by decide +kernel
theorem d_Y_inputFor_50 : decode b_Y_inputFor 50 = .ok (.iconst 1, 1) := by decide +kernel
theorem d_Y_inputFor_51 : decode b_Y_inputFor 51 = .ok (.isub, 1) := by decide +kernel
theorem d_Y_inputFor_52 : decode b_Y_inputFor 52 = .ok (.putfield 63, 3) := by decide +kernel
theorem d_Y_inputFor_55 : decode b_Y_inputFor 55 = .ok (.iconst 0, 1) := by decide +kernel
theorem d_Y_inputFor_56 : decode b_Y_inputFor 56 = .ok (.istore_n 3, 1) := by decide +kernel
theorem d_Y_inputFor_57 : decode b_Y_inputFor 57 = .ok (.iload_n 3, 1) := by decide +kernel
theorem d_Y_inputFor_58 : decode b_Y_inputFor 58 = .ok (.aload_n 0, 1) := by decide +kernel
theorem d_Y_inputFor_59 : decode b_Y_inputFor 59 = .ok (.getfield 63, 3) := by decide +kernel
theorem d_Y_inputFor_62 : decode b_Y_inputFor 62 = .ok (.if_icmp .ge 23, 3) := by decide +kernel
theorem d_Y_inputFor_65 : decode b_Y_inputFor 65 = .ok (.aload_n 0, 1) := by decide +kernel
theorem d_Y_inputFor_66 : decode b_Y_inputFor 66 = .ok (.getfield 22, 3) := by decide +kernel
theorem d_Y_inputFor_69 : decode b_Y_inputFor 69 = .ok (.iload_n 3, 1) := by decide +kernel
theorem d_Y_inputFor_70 : decode b_Y_inputFor 70 = .ok (.aload_n 0, 1) := by decide +kernel
theorem d_Y_inputFor_71 : decode b_Y_inputFor 71 = .ok (.getfield 22, 3) := by decide +kernel
theorem d_Y_inputFor_74 : decode b_Y_inputFor 74 = .ok (.iload_n 3, 1) := by decide +kernel
theorem d_Y_inputFor_75 : decode b_Y_inputFor 75 = .ok (.iconst 1, 1) := by decide +kernel
theorem d_Y_inputFor_76 : decode b_Y_inputFor 76 = .ok (.iadd, 1) := by decide +kernel
theorem d_Y_inputFor_77 : decode b_Y_inputFor 77 = .ok (.iaload, 1) := by decide +kernel
theorem d_Y_inputFor_78 : decode b_Y_inputFor 78 = .ok (.iastore, 1) := by decide +kernel
theorem d_Y_inputFor_79 : decode b_Y_inputFor 79 = .ok (.iinc 3 1, 3) := by decide +kernel
theorem d_Y_inputFor_82 : decode b_Y_inputFor 82 = .ok (.goto (-25), 3) := by decide +kernel
theorem d_Y_inputFor_85 : decode b_Y_inputFor 85 = .ok (.aload_n 0, 1) := by decide +kernel
theorem d_Y_inputFor_86 : decode b_Y_inputFor 86 = .ok (.iconst 1, 1) := by decide +kernel
theorem d_Y_inputFor_87 : decode b_Y_inputFor 87 = .ok (.invokevirtual 101, 3) := by decide +kernel
theorem d_Y_inputFor_90 : decode b_Y_inputFor 90 = .ok (.aload_n 0, 1) := by decide +kernel
theorem d_Y_inputFor_91 : decode b_Y_inputFor 91 = .ok (.iload_n 2, 1) := by decide +kernel
theorem d_Y_inputFor_92 : decode b_Y_inputFor 92 = .ok (.ifCond .lt 12, 3) := by decide +kernel
theorem d_Y_inputFor_95 : decode b_Y_inputFor 95 = .ok (.ldc2_w 104, 3) := by decide +kernel
theorem d_Y_inputFor_98 : decode b_Y_inputFor 98 = .ok (.iload_n 2, 1) := by decide +kernel
theorem d_Y_inputFor_99 : decode b_Y_inputFor 99 = .ok (.i2l, 1) := by decide +kernel
theorem d_Y_inputFor_100 : decode b_Y_inputFor 100 = .ok (.lmul, 1) := by decide +kernel
theorem d_Y_inputFor_101 : decode b_Y_inputFor 101 = .ok (.goto 11, 3) := by decide +kernel
theorem d_Y_inputFor_104 : decode b_Y_inputFor 104 = .ok (.ldc2_w 106, 3) := by decide +kernel
theorem d_Y_inputFor_107 : decode b_Y_inputFor 107 = .ok (.iload_n 2, 1) := by decide +kernel
theorem d_Y_inputFor_108 : decode b_Y_inputFor 108 = .ok (.i2l, 1) := by decide +kernel
theorem d_Y_inputFor_109 : decode b_Y_inputFor 109 = .ok (.lmul, 1) := by decide +kernel
theorem d_Y_inputFor_110 : decode b_Y_inputFor 110 = .ok (.lconst 1, 1) := by decide +kernel
theorem d_Y_inputFor_111 : decode b_Y_inputFor 111 = .ok (.lsub, 1) := by decide +kernel
theorem d_Y_inputFor_112 : decode b_Y_inputFor 112 = .ok (.invokevirtual 91, 3) := by decide +kernel
theorem d_Y_inputFor_115 : decode b_Y_inputFor 115 = .ok (.iload_n 2, 1) := by decide +kernel
theorem d_Y_inputFor_116 : decode b_Y_inputFor 116 = .ok (.ireturn, 1) := by decide +kernel
theorem d_Y_timeFor_0 : decode b_Y_timeFor 0 = .ok (.aload_n 0, 1) := by decide +kernel
theorem d_Y_timeFor_1 : decode b_Y_timeFor 1 = .ok (.getfield 19, 3) := by decide +kernel
theorem d_Y_timeFor_4 : decode b_Y_timeFor 4 = .ok (.iload_n 1, 1) := by decide +kernel
theorem d_Y_timeFor_5 : decode b_Y_timeFor 5 = .ok (.bipush 12, 2) := by decide +kernel
theorem d_Y_timeFor_7 : decode b_Y_timeFor 7 = .ok (.iadd, 1) := by decide +kernel
theorem d_Y_timeFor_8 : decode b_Y_timeFor 8 = .ok (.iaload, 1) := by decide +kernel
theorem d_Y_timeFor_9 : decode b_Y_timeFor 9 = .ok (.istore_n 2, 1) := by decide +kernel
theorem d_Y_timeFor_10 : decode b_Y_timeFor 10 = .ok (.iload_n 1, 1) := by decide +kernel
theorem d_Y_timeFor_11 : decode b_Y_timeFor 11 = .ok (.ifCond .ne 10, 3) := by decide +kernel
theorem d_Y_timeFor_14 : decode b_Y_timeFor 14 = .ok (.aload_n 0, 1) := by decide +kernel
theorem d_Y_timeFor_15 : decode b_Y_timeFor 15 = .ok (.getfield 60, 3) := by decide +kernel
theorem d_Y_timeFor_18 : decode b_Y_timeFor 18 = .ok (.goto 29, 3) := by decide +kernel
theorem d_Y_timeFor_21 : decode b_Y_timeFor 21 = .ok (.aload_n 0, 1) := by decide +kernel
theorem d_Y_timeFor_22 : decode b_Y_timeFor 22 = .ok (.iload_n 1, 1) := by decide +kernel
theorem d_Y_timeFor_23 : decode b_Y_timeFor 23 = .ok (.iconst 2, 1) := by decide +kernel
theorem d_Y_timeFor_24 : decode b_Y_timeFor 24 = .ok (.invokevirtual 98, 3) := by decide +kernel
theorem d_Y_timeFor_27 : decode b_Y_timeFor 27 = .ok (.ifCond .lt 19, 3) := by decide +kernel
theorem d_Y_timeFor_30 : decode b_Y_timeFor 30 = .ok (.iload_n 2, 1) := by decide +kernel
theorem d_Y_timeFor_31 : decode b_Y_timeFor 31 = .ok (.aload_n 0, 1) := by decide +kernel
theorem d_Y_timeFor_32 : decode b_Y_timeFor 32 = .ok (.getfield 39, 3) := by decide +kernel
theorem d_Y_timeFor_35 : decode b_Y_timeFor 35 = .ok (.aload_n 0, 1) := by decide +kernel
theorem d_Y_timeFor_36 : decode b_Y_timeFor 36 = .ok (.iload_n 1, 1) := by decide +kernel
theorem d_Y_timeFor_37 : decode b_Y_timeFor 37 = .ok (.iconst 2, 1) := by decide +kernel
theorem d_Y_timeFor_38 : decode b_Y_timeFor 38 = .ok (.invokevirtual 98, 3) := by decide +kernel
theorem d_Y_timeFor_41 : decode b_Y_timeFor 41 = .ok (.iaload, 1) := by decide +kernel
theorem d_Y_timeFor_42 : decode b_Y_timeFor 42 = .ok (.iadd, 1) := by decide +kernel
theorem d_Y_timeFor_43 : decode b_Y_timeFor 43 = .ok (.goto 4, 3) := by decide +kernel
theorem d_Y_timeFor_46 : decode b_Y_timeFor 46 = .ok (.iload_n 2, 1) := by decide +kernel
theorem d_Y_timeFor_47 : decode b_Y_timeFor 47 = .ok (.istore_n 3, 1) := by decide +kernel
theorem d_Y_timeFor_48 : decode b_Y_timeFor 48 = .ok (.iload_n 1, 1) := by decide +kernel
theorem d_Y_timeFor_49 : decode b_Y_timeFor 49 = .ok (.ifCond .ne 21, 3) := by decide +kernel
theorem d_Y_timeFor_52 : decode b_Y_timeFor 52 = .ok (.iload_n 3, 1) := by decide +kernel
theorem d_Y_timeFor_53 : decode b_Y_timeFor 53 = .ok (.iload_n 2, 1) := by decide +kernel
theorem d_Y_timeFor_54 : decode b_Y_timeFor 54 = .ok (.if_icmp .eq 16, 3) := by decide +kernel
theorem d_Y_timeFor_57 : decode b_Y_timeFor 57 = .ok (.aload_n 0, 1) := by decide +kernel
theorem d_Y_timeFor_58 : decode b_Y_timeFor 58 = .ok (.iconst 2, 1) := by decide +kernel
theorem d_Y_timeFor_59 : decode b_Y_timeFor 59 = .ok (.invokevirtual 101, 3) := by decide +kernel
theorem d_Y_timeFor_62 : decode b_Y_timeFor 62 = .ok (.aload_n 0, 1) := by decide +kernel
theorem d_Y_timeFor_63 : decode b_Y_timeFor 63 = .ok (.iload_n 3, 1) := by decide +kernel
theorem d_Y_timeFor_64 : decode b_Y_timeFor 64 = .ok (.iload_n 2, 1) := by decide +kernel
theorem d_Y_timeFor_65 : decode b_Y_timeFor 65 = .ok (.isub, 1) := by decide +kernel
theorem d_Y_timeFor_66 : decode b_Y_timeFor 66 = .ok (.i2l, 1) := by decide +kernel
theorem d_Y_timeFor_67 : decode b_Y_timeFor 67 = .ok (.invokevirtual 91, 3) := by decide +kernel
theorem d_Y_timeFor_70 : decode b_Y_timeFor 70 = .ok (.aload_n 0, 1) := by decide +kernel
theorem d_Y_timeFor_71 : decode b_Y_timeFor 71 = .ok (.getfield 19, 3) := by decide +kernel
theorem d_Y_timeFor_74 : decode b_Y_timeFor 74 = .ok (.iload_n 1, 1) := by decide +kernel
theorem d_Y_timeFor_75 : decode b_Y_timeFor 75 = .ok (.bipush 12, 2) := by decide +kernel
theorem d_Y_timeFor_77 : decode b_Y_timeFor 77 = .ok (.iadd, 1) := by decide +kernel
theorem d_Y_timeFor_78 : decode b_Y_timeFor 78 = .ok (.iload_n 3, 1) := by decide +kernel
theorem d_Y_timeFor_79 : decode b_Y_timeFor 79 = .ok (.iastore, 1) := by decide +kernel
theorem d_Y_timeFor_80 : decode b_Y_timeFor 80 = .ok (.iload_n 3, 1) := by decide +kernel
theorem d_Y_timeFor_81 : decode b_Y_timeFor 81 = .ok (.ireturn, 1) := by decide +kernel
theorem d_Y_trace_0 : decode b_Y_trace 0 = .ok (.aload_n 0, 1) := by decide +kernel
theorem d_Y_trace_1 : decode b_Y_trace 1 = .ok (.getfield 19, 3) := by decide +kernel
theorem d_Y_trace_4 : decode b_Y_trace 4 = .ok (.iload_n 1, 1) := by decide +kernel
theorem d_Y_trace_5 : decode b_Y_trace 5 = .ok (.bipush 6, 2) := by decide +kernel
theorem d_Y_trace_7 : decode b_Y_trace 7 = .ok (.iadd, 1) := by decide +kernel
theorem d_Y_trace_8 : decode b_Y_trace 8 = .ok (.aload_n 0, 1) := by decide +kernel
theorem d_Y_trace_9 : decode b_Y_trace 9 = .ok (.getfield 19, 3) := by decide +kernel
theorem d_Y_trace_12 : decode b_Y_trace 12 = .ok (.iload_n 1, 1) := by decide +kernel
theorem d_Y_trace_13 : decode b_Y_trace 13 = .ok (.bipush 6, 2) := by decide +kernel
theorem d_Y_trace_15 : decode b_Y_trace 15 = .ok (.iadd, 1) := by decide +kernel
theorem d_Y_trace_16 : decode b_Y_trace 16 = .ok (.iaload, 1) := by decide +kernel
theorem d_Y_trace_17 : decode b_Y_trace 17 = .ok (.iload_n 2, 1) := by decide +kernel
theorem d_Y_trace_18 : decode b_Y_trace 18 = .ok (.ixor, 1) := by decide +kernel
theorem d_Y_trace_19 : decode b_Y_trace 19 = .ok (.ldc 79, 2) := by decide +kernel
theorem d_Y_trace_21 : decode b_Y_trace 21 = .ok (.imul, 1) := by decide +kernel
theorem d_Y_trace_22 : decode b_Y_trace 22 = .ok (.iastore, 1) := by decide +kernel
theorem d_Y_trace_23 : decode b_Y_trace 23 = .ok (.return_, 1) := by decide +kernel
theorem d_Y_tell_0 : decode b_Y_tell 0 = .ok (.iload_n 2, 1) := by decide +kernel
theorem d_Y_tell_1 : decode b_Y_tell 1 = .ok (.aload_n 0, 1) := by decide +kernel
theorem d_Y_tell_2 : decode b_Y_tell 2 = .ok (.getfield 69, 3) := by decide +kernel
theorem d_Y_tell_5 : decode b_Y_tell 5 = .ok (.if_icmp .ne 11, 3) := by decide +kernel
theorem d_Y_tell_8 : decode b_Y_tell 8 = .ok (.iload_n 1, 1) := by decide +kernel
theorem d_Y_tell_9 : decode b_Y_tell 9 = .ok (.aload_n 0, 1) := by decide +kernel
theorem d_Y_tell_10 : decode b_Y_tell 10 = .ok (.invokevirtual 147, 3) := by decide +kernel
theorem d_Y_tell_13 : decode b_Y_tell 13 = .ok (.if_icmp .eq 5, 3) := by decide +kernel
theorem d_Y_tell_16 : decode b_Y_tell 16 = .ok (.iconst (-1), 1) := by decide +kernel
theorem d_Y_tell_17 : decode b_Y_tell 17 = .ok (.ireturn, 1) := by decide +kernel
theorem d_Y_tell_18 : decode b_Y_tell 18 = .ok (.aload_n 0, 1) := by decide +kernel
theorem d_Y_tell_19 : decode b_Y_tell 19 = .ok (.invokevirtual 151, 3) := by decide +kernel
theorem d_Y_tell_22 : decode b_Y_tell 22 = .ok (.ifCond .ne 6, 3) := by decide +kernel
theorem d_Y_tell_25 : decode b_Y_tell 25 = .ok (.bipush (-2), 2) := by decide +kernel
theorem d_Y_tell_27 : decode b_Y_tell 27 = .ok (.ireturn, 1) := by decide +kernel
theorem d_Y_tell_28 : decode b_Y_tell 28 = .ok (.aload_n 0, 1) := by decide +kernel
theorem d_Y_tell_29 : decode b_Y_tell 29 = .ok (.bipush 48, 2) := by decide +kernel
theorem d_Y_tell_31 : decode b_Y_tell 31 = .ok (.invokevirtual 56, 3) := by decide +kernel
theorem d_Y_tell_34 : decode b_Y_tell 34 = .ok (.aload_n 0, 1) := by decide +kernel
theorem d_Y_tell_35 : decode b_Y_tell 35 = .ok (.getfield 19, 3) := by decide +kernel
theorem d_Y_tell_38 : decode b_Y_tell 38 = .ok (.bipush 57, 2) := by decide +kernel
theorem d_Y_tell_40 : decode b_Y_tell 40 = .ok (.iaload, 1) := by decide +kernel
theorem d_Y_tell_41 : decode b_Y_tell 41 = .ok (.aload_n 0, 1) := by decide +kernel
theorem d_Y_tell_42 : decode b_Y_tell 42 = .ok (.getfield 19, 3) := by decide +kernel
theorem d_Y_tell_45 : decode b_Y_tell 45 = .ok (.bipush 9, 2) := by decide +kernel
theorem d_Y_tell_47 : decode b_Y_tell 47 = .ok (.iaload, 1) := by decide +kernel
theorem d_Y_tell_48 : decode b_Y_tell 48 = .ok (.if_icmp .ge 22, 3) := by decide +kernel
theorem d_Y_tell_51 : decode b_Y_tell 51 = .ok (.aload_n 0, 1) := by decide +kernel
theorem d_Y_tell_52 : decode b_Y_tell 52 = .ok (.getfield 19, 3) := by decide +kernel
theorem d_Y_tell_55 : decode b_Y_tell 55 = .ok (.bipush 56, 2) := by decide +kernel
theorem d_Y_tell_57 : decode b_Y_tell 57 = .ok (.iaload, 1) := by decide +kernel
theorem d_Y_tell_58 : decode b_Y_tell 58 = .ok (.ifCond .ne 12, 3) := by decide +kernel
theorem d_Y_tell_61 : decode b_Y_tell 61 = .ok (.aload_n 0, 1) := by decide +kernel
theorem d_Y_tell_62 : decode b_Y_tell 62 = .ok (.bipush 48, 2) := by decide +kernel
theorem d_Y_tell_64 : decode b_Y_tell 64 = .ok (.invokevirtual 131, 3) := by decide +kernel
theorem d_Y_tell_67 : decode b_Y_tell 67 = .ok (.goto (-33), 3) := by decide +kernel
theorem d_Y_tell_70 : decode b_Y_tell 70 = .ok (.iconst 1, 1) := by decide +kernel
theorem d_Y_tell_71 : decode b_Y_tell 71 = .ok (.istore_n 3, 1) := by decide +kernel
theorem d_Y_tell_72 : decode b_Y_tell 72 = .ok (.iconst 0, 1) := by decide +kernel
theorem d_Y_tell_73 : decode b_Y_tell 73 = .ok (.istore 4, 2) := by decide +kernel
theorem d_Y_tell_75 : decode b_Y_tell 75 = .ok (.iload 4, 2) := by decide +kernel
theorem d_Y_tell_77 : decode b_Y_tell 77 = .ok (.bipush 48, 2) := by decide +kernel
theorem d_Y_tell_79 : decode b_Y_tell 79 = .ok (.if_icmp .ge 65, 3) := by decide +kernel
theorem d_Y_tell_82 : decode b_Y_tell 82 = .ok (.iload 4, 2) := by decide +kernel
theorem d_Y_tell_84 : decode b_Y_tell 84 = .ok (.bipush 9, 2) := by decide +kernel
theorem d_Y_tell_86 : decode b_Y_tell 86 = .ok (.if_icmp .le 10, 3) := by decide +kernel
theorem d_Y_tell_89 : decode b_Y_tell 89 = .ok (.iload 4, 2) := by decide +kernel
theorem d_Y_tell_91 : decode b_Y_tell 91 = .ok (.bipush 16, 2) := by decide +kernel
theorem d_Y_tell_93 : decode b_Y_tell 93 = .ok (.if_icmp .lt 7, 3) := by decide +kernel
theorem d_Y_tell_96 : decode b_Y_tell 96 = .ok (.iconst 1, 1) := by decide +kernel
theorem d_Y_tell_97 : decode b_Y_tell 97 = .ok (.goto 4, 3) := by decide +kernel
theorem d_Y_tell_100 : decode b_Y_tell 100 = .ok (.iconst 0, 1) := by decide +kernel
theorem d_Y_tell_101 : decode b_Y_tell 101 = .ok (.istore 5, 2) := by decide +kernel
theorem d_Y_tell_103 : decode b_Y_tell 103 = .ok (.iload_n 3, 1) := by decide +kernel
theorem d_Y_tell_104 : decode b_Y_tell 104 = .ok (.ifCond .eq 32, 3) := by decide +kernel
theorem d_Y_tell_107 : decode b_Y_tell 107 = .ok (.iload 5, 2) := by decide +kernel
theorem d_Y_tell_109 : decode b_Y_tell 109 = .ok (.ifCond .eq 23, 3) := by decide +kernel
theorem d_Y_tell_112 : decode b_Y_tell 112 = .ok (.aload_n 0, 1) := by decide +kernel
theorem d_Y_tell_113 : decode b_Y_tell 113 = .ok (.getfield 19, 3) := by decide +kernel
theorem d_Y_tell_116 : decode b_Y_tell 116 = .ok (.iload 4, 2) := by decide +kernel
theorem d_Y_tell_118 : decode b_Y_tell 118 = .ok (.iaload, 1) := by decide +kernel
theorem d_Y_tell_119 : decode b_Y_tell 119 = .ok (.aload_n 0, 1) := by decide +kernel
theorem d_Y_tell_120 : decode b_Y_tell 120 = .ok (.getfield 19, 3) := by decide +kernel
theorem d_Y_tell_123 : decode b_Y_tell 123 = .ok (.bipush 48, 2) := by decide +kernel
theorem d_Y_tell_125 : decode b_Y_tell 125 = .ok (.iload 4, 2) := by decide +kernel
theorem d_Y_tell_127 : decode b_Y_tell 127 = .ok (.iadd, 1) := by decide +kernel
theorem d_Y_tell_128 : decode b_Y_tell 128 = .ok (.iaload, 1) := by decide +kernel
theorem d_Y_tell_129 : decode b_Y_tell 129 = .ok (.if_icmp .ne 7, 3) := by decide +kernel
theorem d_Y_tell_132 : decode b_Y_tell 132 = .ok (.iconst 1, 1) := by decide +kernel
theorem d_Y_tell_133 : decode b_Y_tell 133 = .ok (.goto 4, 3) := by decide +kernel
theorem d_Y_tell_136 : decode b_Y_tell 136 = .ok (.iconst 0, 1) := by decide +kernel
theorem d_Y_tell_137 : decode b_Y_tell 137 = .ok (.istore_n 3, 1) := by decide +kernel
theorem d_Y_tell_138 : decode b_Y_tell 138 = .ok (.iinc 4 1, 3) := by decide +kernel
theorem d_Y_tell_141 : decode b_Y_tell 141 = .ok (.goto (-66), 3) := by decide +kernel
theorem d_Y_tell_144 : decode b_Y_tell 144 = .ok (.iload_n 3, 1) := by decide +kernel
theorem d_Y_tell_145 : decode b_Y_tell 145 = .ok (.ifCond .eq 7, 3) := by decide +kernel
theorem d_Y_tell_148 : decode b_Y_tell 148 = .ok (.iconst 1, 1) := by decide +kernel
theorem d_Y_tell_149 : decode b_Y_tell 149 = .ok (.goto 4, 3) := by decide +kernel
theorem d_Y_tell_152 : decode b_Y_tell 152 = .ok (.iconst 0, 1) := by decide +kernel
theorem d_Y_tell_153 : decode b_Y_tell 153 = .ok (.ireturn, 1) := by decide +kernel
