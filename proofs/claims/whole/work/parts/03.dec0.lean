theorem d_X_init_0 : decode b_X_init 0 = .ok (.aload_n 0, 1) := by decide +kernel
theorem d_X_init_1 : decode b_X_init 1 = .ok (.invokespecial 1, 3) := by decide +kernel
theorem d_X_init_4 : decode b_X_init 4 = .ok (.aload_n 0, 1) := by decide +kernel
theorem d_X_init_5 : decode b_X_init 5 = .ok (.iload_n 1, 1) := by decide +kernel
theorem d_X_init_6 : decode b_X_init 6 = .ok (.putfield 7, 3) := by decide +kernel
theorem d_X_init_9 : decode b_X_init 9 = .ok (.aload_n 0, 1) := by decide +kernel
theorem d_X_init_10 : decode b_X_init 10 = .ok (.new 13, 3) := by decide +kernel
theorem d_X_init_13 : decode b_X_init 13 = .ok (.dup, 1) := by decide +kernel
theorem d_X_init_14 : decode b_X_init 14 = .ok (.invokespecial 15, 3) := by decide +kernel
theorem d_X_init_17 : decode b_X_init 17 = .ok (.putfield 16, 3) := by decide +kernel
theorem d_X_init_20 : decode b_X_init 20 = .ok (.aload_n 0, 1) := by decide +kernel
theorem d_X_init_21 : decode b_X_init 21 = .ok (.new 20, 3) := by decide +kernel
theorem d_X_init_24 : decode b_X_init 24 = .ok (.dup, 1) := by decide +kernel
theorem d_X_init_25 : decode b_X_init 25 = .ok (.invokespecial 22, 3) := by decide +kernel
theorem d_X_init_28 : decode b_X_init 28 = .ok (.putfield 23, 3) := by decide +kernel
theorem d_X_init_31 : decode b_X_init 31 = .ok (.aload_n 0, 1) := by decide +kernel
theorem d_X_init_32 : decode b_X_init 32 = .ok (.new 27, 3) := by decide +kernel
theorem d_X_init_35 : decode b_X_init 35 = .ok (.dup, 1) := by decide +kernel
theorem d_X_init_36 : decode b_X_init 36 = .ok (.aload_n 0, 1) := by decide +kernel
theorem d_X_init_37 : decode b_X_init 37 = .ok (.getfield 23, 3) := by decide +kernel
theorem d_X_init_40 : decode b_X_init 40 = .ok (.invokespecial 29, 3) := by decide +kernel
theorem d_X_init_43 : decode b_X_init 43 = .ok (.putfield 32, 3) := by decide +kernel
theorem d_X_init_46 : decode b_X_init 46 = .ok (.aload_n 0, 1) := by decide +kernel
theorem d_X_init_47 : decode b_X_init 47 = .ok (.new 36, 3) := by decide +kernel
theorem d_X_init_50 : decode b_X_init 50 = .ok (.dup, 1) := by decide +kernel
theorem d_X_init_51 : decode b_X_init 51 = .ok (.new 38, 3) := by decide +kernel
theorem d_X_init_54 : decode b_X_init 54 = .ok (.dup, 1) := by decide +kernel
theorem d_X_init_55 : decode b_X_init 55 = .ok (.aload_n 0, 1) := by decide +kernel
theorem d_X_init_56 : decode b_X_init 56 = .ok (.getfield 23, 3) := by decide +kernel
theorem d_X_init_59 : decode b_X_init 59 = .ok (.invokespecial 40, 3) := by decide +kernel
theorem d_X_init_62 : decode b_X_init 62 = .ok (.invokespecial 41, 3) := by decide +kernel
theorem d_X_init_65 : decode b_X_init 65 = .ok (.putfield 44, 3) := by decide +kernel
theorem d_X_init_68 : decode b_X_init 68 = .ok (.aload_n 0, 1) := by decide +kernel
theorem d_X_init_69 : decode b_X_init 69 = .ok (.new 48, 3) := by decide +kernel
theorem d_X_init_72 : decode b_X_init 72 = .ok (.dup, 1) := by decide +kernel
theorem d_X_init_73 : decode b_X_init 73 = .ok (.iload_n 1, 1) := by decide +kernel
theorem d_X_init_74 : decode b_X_init 74 = .ok (.invokespecial 50, 3) := by decide +kernel
theorem d_X_init_77 : decode b_X_init 77 = .ok (.putfield 53, 3) := by decide +kernel
theorem d_X_init_80 : decode b_X_init 80 = .ok (.aload_n 0, 1) := by decide +kernel
theorem d_X_init_81 : decode b_X_init 81 = .ok (.new 48, 3) := by decide +kernel
theorem d_X_init_84 : decode b_X_init 84 = .ok (.dup, 1) := by decide +kernel
theorem d_X_init_85 : decode b_X_init 85 = .ok (.iload_n 1, 1) := by decide +kernel
theorem d_X_init_86 : decode b_X_init 86 = .ok (.invokespecial 50, 3) := by decide +kernel
theorem d_X_init_89 : decode b_X_init 89 = .ok (.putfield 57, 3) := by decide +kernel
theorem d_X_init_92 : decode b_X_init 92 = .ok (.aload_n 0, 1) := by decide +kernel
theorem d_X_init_93 : decode b_X_init 93 = .ok (.iconst 0, 1) := by decide +kernel
theorem d_X_init_94 : decode b_X_init 94 = .ok (.putfield 60, 3) := by decide +kernel
theorem d_X_init_97 : decode b_X_init 97 = .ok (.return_, 1) := by decide +kernel
theorem d_P_init_0 : decode b_P_init 0 = .ok (.aload_n 0, 1) := by decide +kernel
theorem d_P_init_1 : decode b_P_init 1 = .ok (.invokespecial 3, 3) := by decide +kernel
theorem d_P_init_4 : decode b_P_init 4 = .ok (.aload_n 0, 1) := by decide +kernel
theorem d_P_init_5 : decode b_P_init 5 = .ok (.bipush 24, 2) := by decide +kernel
theorem d_P_init_7 : decode b_P_init 7 = .ok (.newarray .int, 2) := by decide +kernel
theorem d_P_init_9 : decode b_P_init 9 = .ok (.putfield 9, 3) := by decide +kernel
theorem d_P_init_12 : decode b_P_init 12 = .ok (.aload_n 0, 1) := by decide +kernel
theorem d_P_init_13 : decode b_P_init 13 = .ok (.bipush 24, 2) := by decide +kernel
theorem d_P_init_15 : decode b_P_init 15 = .ok (.newarray .int, 2) := by decide +kernel
theorem d_P_init_17 : decode b_P_init 17 = .ok (.putfield 15, 3) := by decide +kernel
theorem d_P_init_20 : decode b_P_init 20 = .ok (.aload_n 0, 1) := by decide +kernel
theorem d_P_init_21 : decode b_P_init 21 = .ok (.bipush 24, 2) := by decide +kernel
theorem d_P_init_23 : decode b_P_init 23 = .ok (.newarray .int, 2) := by decide +kernel
theorem d_P_init_25 : decode b_P_init 25 = .ok (.putfield 18, 3) := by decide +kernel
theorem d_P_init_28 : decode b_P_init 28 = .ok (.return_, 1) := by decide +kernel
theorem d_J_init_0 : decode b_J_init 0 = .ok (.aload_n 0, 1) := by decide +kernel
theorem d_J_init_1 : decode b_J_init 1 = .ok (.invokespecial 3, 3) := by decide +kernel
theorem d_J_init_4 : decode b_J_init 4 = .ok (.aload_n 0, 1) := by decide +kernel
theorem d_J_init_5 : decode b_J_init 5 = .ok (.sipush 300, 3) := by decide +kernel
theorem d_J_init_8 : decode b_J_init 8 = .ok (.newarray .int, 2) := by decide +kernel
theorem d_J_init_10 : decode b_J_init 10 = .ok (.putfield 9, 3) := by decide +kernel
theorem d_J_init_13 : decode b_J_init 13 = .ok (.aload_n 0, 1) := by decide +kernel
theorem d_J_init_14 : decode b_J_init 14 = .ok (.iconst 1, 1) := by decide +kernel
theorem d_J_init_15 : decode b_J_init 15 = .ok (.putfield 15, 3) := by decide +kernel
theorem d_J_init_18 : decode b_J_init 18 = .ok (.return_, 1) := by decide +kernel
theorem d_R_init_0 : decode b_R_init 0 = .ok (.aload_n 0, 1) := by decide +kernel
theorem d_R_init_1 : decode b_R_init 1 = .ok (.invokespecial 3, 3) := by decide +kernel
theorem d_R_init_4 : decode b_R_init 4 = .ok (.aload_n 0, 1) := by decide +kernel
theorem d_R_init_5 : decode b_R_init 5 = .ok (.bipush 16, 2) := by decide +kernel
theorem d_R_init_7 : decode b_R_init 7 = .ok (.newarray .int, 2) := by decide +kernel
theorem d_R_init_9 : decode b_R_init 9 = .ok (.putfield 9, 3) := by decide +kernel
theorem d_R_init_12 : decode b_R_init 12 = .ok (.aload_n 0, 1) := by decide +kernel
theorem d_R_init_13 : decode b_R_init 13 = .ok (.aload_n 1, 1) := by decide +kernel
theorem d_R_init_14 : decode b_R_init 14 = .ok (.putfield 15, 3) := by decide +kernel
theorem d_R_init_17 : decode b_R_init 17 = .ok (.return_, 1) := by decide +kernel
theorem d_O_init_0 : decode b_O_init 0 = .ok (.aload_n 0, 1) := by decide +kernel
theorem d_O_init_1 : decode b_O_init 1 = .ok (.invokespecial 1, 3) := by decide +kernel
theorem d_O_init_4 : decode b_O_init 4 = .ok (.return_, 1) := by decide +kernel
theorem d_D_init_0 : decode b_D_init 0 = .ok (.aload_n 0, 1) := by decide +kernel
theorem d_D_init_1 : decode b_D_init 1 = .ok (.invokespecial 3, 3) := by decide +kernel
theorem d_D_init_4 : decode b_D_init 4 = .ok (.aload_n 0, 1) := by decide +kernel
theorem d_D_init_5 : decode b_D_init 5 = .ok (.aload_n 1, 1) := by decide +kernel
theorem d_D_init_6 : decode b_D_init 6 = .ok (.putfield 9, 3) := by decide +kernel
theorem d_D_init_9 : decode b_D_init 9 = .ok (.return_, 1) := by decide +kernel
theorem d_T_init_0 : decode b_T_init 0 = .ok (.aload_n 0, 1) := by decide +kernel
theorem d_T_init_1 : decode b_T_init 1 = .ok (.invokespecial 3, 3) := by decide +kernel
theorem d_T_init_4 : decode b_T_init 4 = .ok (.aload_n 0, 1) := by decide +kernel
theorem d_T_init_5 : decode b_T_init 5 = .ok (.aload_n 1, 1) := by decide +kernel
theorem d_T_init_6 : decode b_T_init 6 = .ok (.putfield 9, 3) := by decide +kernel
theorem d_T_init_9 : decode b_T_init 9 = .ok (.return_, 1) := by decide +kernel
theorem d_M_init_0 : decode b_M_init 0 = .ok (.aload_n 0, 1) := by decide +kernel
theorem d_M_init_1 : decode b_M_init 1 = .ok (.invokespecial 3, 3) := by decide +kernel
theorem d_M_init_4 : decode b_M_init 4 = .ok (.aload_n 0, 1) := by decide +kernel
theorem d_M_init_5 : decode b_M_init 5 = .ok (.iconst 4, 1) := by decide +kernel
theorem d_M_init_6 : decode b_M_init 6 = .ok (.newarray .int, 2) := by decide +kernel
theorem d_M_init_8 : decode b_M_init 8 = .ok (.putfield 9, 3) := by decide +kernel
theorem d_M_init_11 : decode b_M_init 11 = .ok (.aload_n 0, 1) := by decide +kernel
theorem d_M_init_12 : decode b_M_init 12 = .ok (.bipush 32, 2) := by decide +kernel
theorem d_M_init_14 : decode b_M_init 14 = .ok (.newarray .int, 2) := by decide +kernel
theorem d_M_init_16 : decode b_M_init 16 = .ok (.putfield 15, 3) := by decide +kernel
theorem d_M_init_19 : decode b_M_init 19 = .ok (.aload_n 0, 1) := by decide +kernel
theorem d_M_init_20 : decode b_M_init 20 = .ok (.iload_n 1, 1) := by decide +kernel
theorem d_M_init_21 : decode b_M_init 21 = .ok (.putfield 18, 3) := by decide +kernel
theorem d_M_init_24 : decode b_M_init 24 = .ok (.return_, 1) := by decide +kernel
theorem d_X_add_0 : decode b_X_add 0 = .ok (.aload_n 0, 1) := by decide +kernel
theorem d_X_add_1 : decode b_X_add 1 = .ok (.getfield 60, 3) := by decide +kernel
theorem d_X_add_4 : decode b_X_add 4 = .ok (.ifCond .ne 11, 3) := by decide +kernel
theorem d_X_add_7 : decode b_X_add 7 = .ok (.iload_n 1, 1) := by decide +kernel
theorem d_X_add_8 : decode b_X_add 8 = .ok (.iload_n 3, 1) := by decide +kernel
theorem d_X_add_9 : decode b_X_add 9 = .ok (.invokestatic 64, 3) := by decide +kernel
theorem d_X_add_12 : decode b_X_add 12 = .ok (.ifCond .ne 5, 3) := by decide +kernel
theorem d_X_add_15 : decode b_X_add 15 = .ok (.iconst (-1), 1) := by decide +kernel
theorem d_X_add_16 : decode b_X_add 16 = .ok (.ireturn, 1) := by decide +kernel
theorem d_X_add_17 : decode b_X_add 17 = .ok (.aload_n 0, 1) := by decide +kernel
theorem d_X_add_18 : decode b_X_add 18 = .ok (.getfield 16, 3) := by decide +kernel
theorem d_X_add_21 : decode b_X_add 21 = .ok (.iload_n 1, 1) := by decide +kernel
theorem d_X_add_22 : decode b_X_add 22 = .ok (.iload_n 2, 1) := by decide +kernel
theorem d_X_add_23 : decode b_X_add 23 = .ok (.iload_n 3, 1) := by decide +kernel
theorem d_X_add_24 : decode b_X_add 24 = .ok (.invokevirtual 68, 3) := by decide +kernel
theorem d_X_add_27 : decode b_X_add 27 = .ok (.ireturn, 1) := by decide +kernel
theorem d_X_isInstruction_0 : decode b_X_isInstruction 0 = .ok (.iload_n 0, 1) := by decide +kernel
theorem d_X_isInstruction_1 : decode b_X_isInstruction 1 = .ok (.ifCond .lt 9, 3) := by decide +kernel
theorem d_X_isInstruction_4 : decode b_X_isInstruction 4 = .ok (.iload_n 0, 1) := by decide +kernel
theorem d_X_isInstruction_5 : decode b_X_isInstruction 5 = .ok (.bipush 12, 2) := by decide +kernel
theorem d_X_isInstruction_7 : decode b_X_isInstruction 7 = .ok (.if_icmp .le 5, 3) := by decide +kernel
theorem d_X_isInstruction_10 : decode b_X_isInstruction 10 = .ok (.iconst 0, 1) := by decide +kernel
theorem d_X_isInstruction_11 : decode b_X_isInstruction 11 = .ok (.ireturn, 1) := by decide +kernel
theorem d_X_isInstruction_12 : decode b_X_isInstruction 12 = .ok (.iload_n 0, 1) := by decide +kernel
theorem d_X_isInstruction_13 : decode b_X_isInstruction 13 = .ok (.iconst 5, 1) := by decide +kernel
theorem d_X_isInstruction_14 : decode b_X_isInstruction 14 = .ok (.if_icmp .eq 9, 3) := by decide +kernel
theorem d_X_isInstruction_17 : decode b_X_isInstruction 17 = .ok (.iload_n 0, 1) := by decide +kernel
theorem d_X_isInstruction_18 : decode b_X_isInstruction 18 = .ok (.bipush 6, 2) := by decide +kernel
theorem d_X_isInstruction_20 : decode b_X_isInstruction 20 = .ok (.if_icmp .ne 7, 3) := by decide +kernel
theorem d_X_isInstruction_23 : decode b_X_isInstruction 23 = .ok (.iconst 1, 1) := by decide +kernel
theorem d_X_isInstruction_24 : decode b_X_isInstruction 24 = .ok (.goto 4, 3) := by decide +kernel
theorem d_X_isInstruction_27 : decode b_X_isInstruction 27 = .ok (.iconst 0, 1) := by decide +kernel
theorem d_X_isInstruction_28 : decode b_X_isInstruction 28 = .ok (.istore_n 2, 1) := by decide +kernel
theorem d_X_isInstruction_29 : decode b_X_isInstruction 29 = .ok (.iload_n 2, 1) := by decide +kernel
theorem d_X_isInstruction_30 : decode b_X_isInstruction 30 = .ok (.ifCond .eq 13, 3) := by decide +kernel
theorem d_X_isInstruction_33 : decode b_X_isInstruction 33 = .ok (.iload_n 1, 1) := by decide +kernel
theorem d_X_isInstruction_34 : decode b_X_isInstruction 34 = .ok (.ifCond .lt 13, 3) := by decide +kernel
theorem d_X_isInstruction_37 : decode b_X_isInstruction 37 = .ok (.iload_n 1, 1) := by decide +kernel
theorem d_X_isInstruction_38 : decode b_X_isInstruction 38 = .ok (.bipush 24, 2) := by decide +kernel
theorem d_X_isInstruction_40 : decode b_X_isInstruction 40 = .ok (.if_icmp .ge 7, 3) := by decide +kernel
theorem d_X_isInstruction_43 : decode b_X_isInstruction 43 = .ok (.iconst 1, 1) := by decide +kernel
theorem d_X_isInstruction_44 : decode b_X_isInstruction 44 = .ok (.goto 4, 3) := by decide +kernel
theorem d_X_isInstruction_47 : decode b_X_isInstruction 47 = .ok (.iconst 0, 1) := by decide +kernel
theorem d_X_isInstruction_48 : decode b_X_isInstruction 48 = .ok (.ireturn, 1) := by decide +kernel
theorem d_P_append_0 : decode b_P_append 0 = .ok (.aload_n 0, 1) := by decide +kernel
theorem d_P_append_1 : decode b_P_append 1 = .ok (.getfield 21, 3) := by decide +kernel
theorem d_P_append_4 : decode b_P_append 4 = .ok (.bipush 24, 2) := by decide +kernel
theorem d_P_append_6 : decode b_P_append 6 = .ok (.if_icmp .lt 5, 3) := by decide +kernel
theorem d_P_append_9 : decode b_P_append 9 = .ok (.iconst (-1), 1) := by decide +kernel
theorem d_P_append_10 : decode b_P_append 10 = .ok (.ireturn, 1) := by decide +kernel
theorem d_P_append_11 : decode b_P_append 11 = .ok (.aload_n 0, 1) := by decide +kernel
theorem d_P_append_12 : decode b_P_append 12 = .ok (.getfield 9, 3) := by decide +kernel
theorem d_P_append_15 : decode b_P_append 15 = .ok (.aload_n 0, 1) := by decide +kernel
theorem d_P_append_16 : decode b_P_append 16 = .ok (.getfield 21, 3) := by decide +kernel
theorem d_P_append_19 : decode b_P_append 19 = .ok (.iload_n 1, 1) := by decide +kernel
theorem d_P_append_20 : decode b_P_append 20 = .ok (.iastore, 1) := by decide +kernel
theorem d_P_append_21 : decode b_P_append 21 = .ok (.aload_n 0, 1) := by decide +kernel
theorem d_P_append_22 : decode b_P_append 22 = .ok (.getfield 15, 3) := by decide +kernel
theorem d_P_append_25 : decode b_P_append 25 = .ok (.aload_n 0, 1) := by decide +kernel
theorem d_P_append_26 : decode b_P_append 26 = .ok (.getfield 21, 3) := by decide +kernel
theorem d_P_append_29 : decode b_P_append 29 = .ok (.iload_n 2, 1) := by decide +kernel
theorem d_P_append_30 : decode b_P_append 30 = .ok (.iastore, 1) := by decide +kernel
theorem d_P_append_31 : decode b_P_append 31 = .ok (.aload_n 0, 1) := by decide +kernel
theorem d_P_append_32 : decode b_P_append 32 = .ok (.getfield 18, 3) := by decide +kernel
theorem d_P_append_35 : decode b_P_append 35 = .ok (.aload_n 0, 1) := by decide +kernel
theorem d_P_append_36 : decode b_P_append 36 = .ok (.getfield 21, 3) := by decide +kernel
theorem d_P_append_39 : decode b_P_append 39 = .ok (.iload_n 3, 1) := by decide +kernel
theorem d_P_append_40 : decode b_P_append 40 = .ok (.iastore, 1) := by decide +kernel
theorem d_P_append_41 : decode b_P_append 41 = .ok (.aload_n 0, 1) := by decide +kernel
theorem d_P_append_42 : decode b_P_append 42 = .ok (.dup, 1) := by decide +kernel
theorem d_P_append_43 : decode b_P_append 43 = .ok (.getfield 21, 3) := by decide +kernel
theorem d_P_append_46 : decode b_P_append 46 = .ok (.iconst 1, 1) := by decide +kernel
theorem d_P_append_47 : decode b_P_append 47 = .ok (.iadd, 1) := by decide +kernel
theorem d_P_append_48 : decode b_P_append 48 = .ok (.putfield 21, 3) := by decide +kernel
theorem d_P_append_51 : decode b_P_append 51 = .ok (.aload_n 0, 1) := by decide +kernel
theorem d_P_append_52 : decode b_P_append 52 = .ok (.getfield 21, 3) := by decide +kernel
theorem d_P_append_55 : decode b_P_append 55 = .ok (.iconst 1, 1) := by decide +kernel
theorem d_P_append_56 : decode b_P_append 56 = .ok (.isub, 1) := by decide +kernel
theorem d_P_append_57 : decode b_P_append 57 = .ok (.ireturn, 1) := by decide +kernel
theorem d_X_clear_0 : decode b_X_clear 0 = .ok (.aload_n 0, 1) := by decide +kernel
theorem d_X_clear_1 : decode b_X_clear 1 = .ok (.getfield 16, 3) := by decide +kernel
theorem d_X_clear_4 : decode b_X_clear 4 = .ok (.getfield 72, 3) := by decide +kernel
theorem d_X_clear_7 : decode b_X_clear 7 = .ok (.istore_n 1, 1) := by decide +kernel
theorem d_X_clear_8 : decode b_X_clear 8 = .ok (.aload_n 0, 1) := by decide +kernel
theorem d_X_clear_9 : decode b_X_clear 9 = .ok (.getfield 16, 3) := by decide +kernel
theorem d_X_clear_12 : decode b_X_clear 12 = .ok (.iconst 0, 1) := by decide +kernel
theorem d_X_clear_13 : decode b_X_clear 13 = .ok (.putfield 72, 3) := by decide +kernel
theorem d_X_clear_16 : decode b_X_clear 16 = .ok (.aload_n 0, 1) := by decide +kernel
theorem d_X_clear_17 : decode b_X_clear 17 = .ok (.getfield 53, 3) := by decide +kernel
theorem d_X_clear_20 : decode b_X_clear 20 = .ok (.aload_n 0, 1) := by decide +kernel
theorem d_X_clear_21 : decode b_X_clear 21 = .ok (.getfield 7, 3) := by decide +kernel
theorem d_X_clear_24 : decode b_X_clear 24 = .ok (.invokevirtual 75, 3) := by decide +kernel
theorem d_X_clear_27 : decode b_X_clear 27 = .ok (.aload_n 0, 1) := by decide +kernel
theorem d_X_clear_28 : decode b_X_clear 28 = .ok (.getfield 23, 3) := by decide +kernel
theorem d_X_clear_31 : decode b_X_clear 31 = .ok (.invokevirtual 78, 3) := by decide +kernel
theorem d_X_clear_34 : decode b_X_clear 34 = .ok (.aload_n 0, 1) := by decide +kernel
theorem d_X_clear_35 : decode b_X_clear 35 = .ok (.getfield 32, 3) := by decide +kernel
theorem d_X_clear_38 : decode b_X_clear 38 = .ok (.invokevirtual 80, 3) := by decide +kernel
theorem d_X_clear_41 : decode b_X_clear 41 = .ok (.aload_n 0, 1) := by decide +kernel
theorem d_X_clear_42 : decode b_X_clear 42 = .ok (.iconst 0, 1) := by decide +kernel
theorem d_X_clear_43 : decode b_X_clear 43 = .ok (.putfield 60, 3) := by decide +kernel
theorem d_X_clear_46 : decode b_X_clear 46 = .ok (.iload_n 1, 1) := by decide +kernel
theorem d_X_clear_47 : decode b_X_clear 47 = .ok (.ireturn, 1) := by decide +kernel
theorem d_M_restart_0 : decode b_M_restart 0 = .ok (.aload_n 0, 1) := by decide +kernel
theorem d_M_restart_1 : decode b_M_restart 1 = .ok (.getfield 9, 3) := by decide +kernel
theorem d_M_restart_4 : decode b_M_restart 4 = .ok (.iconst 0, 1) := by decide +kernel
theorem d_M_restart_5 : decode b_M_restart 5 = .ok (.invokestatic 22, 3) := by decide +kernel
theorem d_M_restart_8 : decode b_M_restart 8 = .ok (.aload_n 0, 1) := by decide +kernel
theorem d_M_restart_9 : decode b_M_restart 9 = .ok (.getfield 15, 3) := by decide +kernel
theorem d_M_restart_12 : decode b_M_restart 12 = .ok (.iconst 0, 1) := by decide +kernel
theorem d_M_restart_13 : decode b_M_restart 13 = .ok (.invokestatic 22, 3) := by decide +kernel
theorem d_M_restart_16 : decode b_M_restart 16 = .ok (.aload_n 0, 1) := by decide +kernel
theorem d_M_restart_17 : decode b_M_restart 17 = .ok (.iconst 0, 1) := by decide +kernel
theorem d_M_restart_18 : decode b_M_restart 18 = .ok (.putfield 28, 3) := by decide +kernel
theorem d_M_restart_21 : decode b_M_restart 21 = .ok (.aload_n 0, 1) := by decide +kernel
theorem d_M_restart_22 : decode b_M_restart 22 = .ok (.iconst 0, 1) := by decide +kernel
theorem d_M_restart_23 : decode b_M_restart 23 = .ok (.putfield 31, 3) := by decide +kernel
theorem d_M_restart_26 : decode b_M_restart 26 = .ok (.aload_n 0, 1) := by decide +kernel
theorem d_M_restart_27 : decode b_M_restart 27 = .ok (.iconst 0, 1) := by decide +kernel
theorem d_M_restart_28 : decode b_M_restart 28 = .ok (.putfield 34, 3) := by decide +kernel
theorem d_M_restart_31 : decode b_M_restart 31 = .ok (.aload_n 0, 1) := by decide +kernel
theorem d_M_restart_32 : decode b_M_restart 32 = .ok (.iconst 0, 1) := by decide +kernel
theorem d_M_restart_33 : decode b_M_restart 33 = .ok (.putfield 38, 3) := by decide +kernel
theorem d_M_restart_36 : decode b_M_restart 36 = .ok (.aload_n 0, 1) := by decide +kernel
theorem d_M_restart_37 : decode b_M_restart 37 = .ok (.iload_n 1, 1) := by decide +kernel
theorem d_M_restart_38 : decode b_M_restart 38 = .ok (.putfield 18, 3) := by decide +kernel
theorem d_M_restart_41 : decode b_M_restart 41 = .ok (.aload_n 0, 1) := by decide +kernel
theorem d_M_restart_42 : decode b_M_restart 42 = .ok (.iconst 0, 1) := by decide +kernel
theorem d_M_restart_43 : decode b_M_restart 43 = .ok (.putfield 41, 3) := by decide +kernel
theorem d_M_restart_46 : decode b_M_restart 46 = .ok (.aload_n 0, 1) := by decide +kernel
theorem d_M_restart_47 : decode b_M_restart 47 = .ok (.iconst 0, 1) := by decide +kernel
theorem d_M_restart_48 : decode b_M_restart 48 = .ok (.putfield 44, 3) := by decide +kernel
theorem d_M_restart_51 : decode b_M_restart 51 = .ok (.aload_n 0, 1) := by decide +kernel
theorem d_M_restart_52 : decode b_M_restart 52 = .ok (.iconst 0, 1) := by decide +kernel
theorem d_M_restart_53 : decode b_M_restart 53 = .ok (.putfield 47, 3) := by decide +kernel
theorem d_M_restart_56 : decode b_M_restart 56 = .ok (.return_, 1) := by decide +kernel
theorem d_A_fill_0 : decode b_A_fill 0 = .ok (.iconst 0, 1) := by decide +kernel
theorem d_A_fill_1 : decode b_A_fill 1 = .ok (.istore_n 2, 1) := by decide +kernel
theorem d_A_fill_2 : decode b_A_fill 2 = .ok (.aload_n 0, 1) := by decide +kernel
theorem d_A_fill_3 : decode b_A_fill 3 = .ok (.arraylength, 1) := by decide +kernel
theorem d_A_fill_4 : decode b_A_fill 4 = .ok (.istore_n 3, 1) := by decide +kernel
theorem d_A_fill_5 : decode b_A_fill 5 = .ok (.iload_n 2, 1) := by decide +kernel
theorem d_A_fill_6 : decode b_A_fill 6 = .ok (.iload_n 3, 1) := by decide +kernel
theorem d_A_fill_7 : decode b_A_fill 7 = .ok (.if_icmp .ge 13, 3) := by decide +kernel
theorem d_A_fill_10 : decode b_A_fill 10 = .ok (.aload_n 0, 1) := by decide +kernel
theorem d_A_fill_11 : decode b_A_fill 11 = .ok (.iload_n 2, 1) := by decide +kernel
theorem d_A_fill_12 : decode b_A_fill 12 = .ok (.iload_n 1, 1) := by decide +kernel
theorem d_A_fill_13 : decode b_A_fill 13 = .ok (.iastore, 1) := by decide +kernel
theorem d_A_fill_14 : decode b_A_fill 14 = .ok (.iinc 2 1, 3) := by decide +kernel
theorem d_A_fill_17 : decode b_A_fill 17 = .ok (.goto (-12), 3) := by decide +kernel
theorem d_A_fill_20 : decode b_A_fill 20 = .ok (.return_, 1) := by decide +kernel
theorem d_J_restart_0 : decode b_J_restart 0 = .ok (.aload_n 0, 1) := by decide +kernel
theorem d_J_restart_1 : decode b_J_restart 1 = .ok (.iconst 0, 1) := by decide +kernel
theorem d_J_restart_2 : decode b_J_restart 2 = .ok (.putfield 19, 3) := by decide +kernel
theorem d_J_restart_5 : decode b_J_restart 5 = .ok (.aload_n 0, 1) := by decide +kernel
theorem d_J_restart_6 : decode b_J_restart 6 = .ok (.iconst 0, 1) := by decide +kernel
theorem d_J_restart_7 : decode b_J_restart 7 = .ok (.putfield 22, 3) := by decide +kernel
theorem d_J_restart_10 : decode b_J_restart 10 = .ok (.aload_n 0, 1) := by decide +kernel
theorem d_J_restart_11 : decode b_J_restart 11 = .ok (.iconst 1, 1) := by decide +kernel
theorem d_J_restart_12 : decode b_J_restart 12 = .ok (.putfield 15, 3) := by decide +kernel
theorem d_J_restart_15 : decode b_J_restart 15 = .ok (.aload_n 0, 1) := by decide +kernel
theorem d_J_restart_16 : decode b_J_restart 16 = .ok (.iconst 0, 1) := by decide +kernel
theorem d_J_restart_17 : decode b_J_restart 17 = .ok (.putfield 25, 3) := by decide +kernel
theorem d_J_restart_20 : decode b_J_restart 20 = .ok (.return_, 1) := by decide +kernel
theorem d_R_restart_0 : decode b_R_restart 0 = .ok (.aload_n 0, 1) := by decide +kernel
theorem d_R_restart_1 : decode b_R_restart 1 = .ok (.iconst 0, 1) := by decide +kernel
theorem d_R_restart_2 : decode b_R_restart 2 = .ok (.putfield 19, 3) := by decide +kernel
theorem d_R_restart_5 : decode b_R_restart 5 = .ok (.aload_n 0, 1) := by decide +kernel
theorem d_R_restart_6 : decode b_R_restart 6 = .ok (.iconst 0, 1) := by decide +kernel
theorem d_R_restart_7 : decode b_R_restart 7 = .ok (.putfield 23, 3) := by decide +kernel
theorem d_R_restart_10 : decode b_R_restart 10 = .ok (.aload_n 0, 1) := by decide +kernel
theorem d_R_restart_11 : decode b_R_restart 11 = .ok (.iconst 0, 1) := by decide +kernel
theorem d_R_restart_12 : decode b_R_restart 12 = .ok (.putfield 26, 3) := by decide +kernel
theorem d_R_restart_15 : decode b_R_restart 15 = .ok (.aload_n 0, 1) := by decide +kernel
theorem d_R_restart_16 : decode b_R_restart 16 = .ok (.iconst 0, 1) := by decide +kernel
theorem d_R_restart_17 : decode b_R_restart 17 = .ok (.putfield 30, 3) := by decide +kernel
theorem d_R_restart_20 : decode b_R_restart 20 = .ok (.return_, 1) := by decide +kernel
theorem d_X_input_0 : decode b_X_input 0 = .ok (.aload_n 0, 1) := by decide +kernel
theorem d_X_input_1 : decode b_X_input 1 = .ok (.getfield 32, 3) := by decide +kernel
theorem d_X_input_4 : decode b_X_input 4 = .ok (.iload_n 1, 1) := by decide +kernel
theorem d_X_input_5 : decode b_X_input 5 = .ok (.invokevirtual 81, 3) := by decide +kernel
theorem d_X_input_8 : decode b_X_input 8 = .ok (.ireturn, 1) := by decide +kernel
theorem d_R_addInput_0 : decode b_R_addInput 0 = .ok (.aload_n 0, 1) := by decide +kernel
theorem d_R_addInput_1 : decode b_R_addInput 1 = .ok (.getfield 19, 3) := by decide +kernel
theorem d_R_addInput_4 : decode b_R_addInput 4 = .ok (.bipush 16, 2) := by decide +kernel
theorem d_R_addInput_6 : decode b_R_addInput 6 = .ok (.if_icmp .lt 5, 3) := by decide +kernel
theorem d_R_addInput_9 : decode b_R_addInput 9 = .ok (.iconst (-1), 1) := by decide +kernel
theorem d_R_addInput_10 : decode b_R_addInput 10 = .ok (.ireturn, 1) := by decide +kernel
theorem d_R_addInput_11 : decode b_R_addInput 11 = .ok (.aload_n 0, 1) := by decide +kernel
theorem d_R_addInput_12 : decode b_R_addInput 12 = .ok (.getfield 9, 3) := by decide +kernel
theorem d_R_addInput_15 : decode b_R_addInput 15 = .ok (.aload_n 0, 1) := by decide +kernel
theorem d_R_addInput_16 : decode b_R_addInput 16 = .ok (.getfield 19, 3) := by decide +kernel
theorem d_R_addInput_19 : decode b_R_addInput 19 = .ok (.iload_n 1, 1) := by decide +kernel
theorem d_R_addInput_20 : decode b_R_addInput 20 = .ok (.iastore, 1) := by decide +kernel
theorem d_R_addInput_21 : decode b_R_addInput 21 = .ok (.aload_n 0, 1) := by decide +kernel
theorem d_R_addInput_22 : decode b_R_addInput 22 = .ok (.dup, 1) := by decide +kernel
theorem d_R_addInput_23 : decode b_R_addInput 23 = .ok (.getfield 19, 3) := by decide +kernel
theorem d_R_addInput_26 : decode b_R_addInput 26 = .ok (.iconst 1, 1) := by decide +kernel
theorem d_R_addInput_27 : decode b_R_addInput 27 = .ok (.iadd, 1) := by decide +kernel
theorem d_R_addInput_28 : decode b_R_addInput 28 = .ok (.putfield 19, 3) := by decide +kernel
theorem d_R_addInput_31 : decode b_R_addInput 31 = .ok (.aload_n 0, 1) := by decide +kernel
theorem d_R_addInput_32 : decode b_R_addInput 32 = .ok (.getfield 19, 3) := by decide +kernel
theorem d_R_addInput_35 : decode b_R_addInput 35 = .ok (.ireturn, 1) := by decide +kernel
theorem d_X_request_0 : decode b_X_request 0 = .ok (.aload_n 0, 1) := by decide +kernel
theorem d_X_request_1 : decode b_X_request 1 = .ok (.getfield 32, 3) := by decide +kernel
theorem d_X_request_4 : decode b_X_request 4 = .ok (.getfield 85, 3) := by decide +kernel
theorem d_X_request_7 : decode b_X_request 7 = .ok (.ifCond .eq 5, 3) := by decide +kernel
theorem d_X_request_10 : decode b_X_request 10 = .ok (.iconst 0, 1) := by decide +kernel
theorem d_X_request_11 : decode b_X_request 11 = .ok (.ireturn, 1) := by decide +kernel
theorem d_X_request_12 : decode b_X_request 12 = .ok (.aload_n 0, 1) := by decide +kernel
theorem d_X_request_13 : decode b_X_request 13 = .ok (.getfield 32, 3) := by decide +kernel
theorem d_X_request_16 : decode b_X_request 16 = .ok (.iconst 1, 1) := by decide +kernel
theorem d_X_request_17 : decode b_X_request 17 = .ok (.putfield 85, 3) := by decide +kernel
theorem d_X_request_20 : decode b_X_request 20 = .ok (.iconst 1, 1) := by decide +kernel
theorem d_X_request_21 : decode b_X_request 21 = .ok (.ireturn, 1) := by decide +kernel
theorem d_X_pass_0 : decode b_X_pass 0 = .ok (.iload_n 1, 1) := by decide +kernel
theorem d_X_pass_1 : decode b_X_pass 1 = .ok (.iconst 1, 1) := by decide +kernel
theorem d_X_pass_2 : decode b_X_pass 2 = .ok (.if_icmp .lt 9, 3) := by decide +kernel
theorem d_X_pass_5 : decode b_X_pass 5 = .ok (.iload_n 1, 1) := by decide +kernel
theorem d_X_pass_6 : decode b_X_pass 6 = .ok (.ldc 88, 2) := by decide +kernel
theorem d_X_pass_8 : decode b_X_pass 8 = .ok (.if_icmp .le 5, 3) := by decide +kernel
theorem d_X_pass_11 : decode b_X_pass 11 = .ok (.iconst 0, 1) := by decide +kernel
theorem d_X_pass_12 : decode b_X_pass 12 = .ok (.ireturn, 1) := by decide +kernel
theorem d_X_pass_13 : decode b_X_pass 13 = .ok (.aload_n 0, 1) := by decide +kernel
theorem d_X_pass_14 : decode b_X_pass 14 = .ok (.getfield 32, 3) := by decide +kernel
theorem d_X_pass_17 : decode b_X_pass 17 = .ok (.dup, 1) := by decide +kernel
theorem d_X_pass_18 : decode b_X_pass 18 = .ok (.getfield 89, 3) := by decide +kernel
theorem d_X_pass_21 : decode b_X_pass 21 = .ok (.iload_n 1, 1) := by decide +kernel
theorem d_X_pass_22 : decode b_X_pass 22 = .ok (.iadd, 1) := by decide +kernel
theorem d_X_pass_23 : decode b_X_pass 23 = .ok (.putfield 89, 3) := by decide +kernel
theorem d_X_pass_26 : decode b_X_pass 26 = .ok (.iconst 1, 1) := by decide +kernel
theorem d_X_pass_27 : decode b_X_pass 27 = .ok (.ireturn, 1) := by decide +kernel
theorem d_X_run_0 : decode b_X_run 0 = .ok (.iload_n 1, 1) := by decide +kernel
theorem d_X_run_1 : decode b_X_run 1 = .ok (.iconst 1, 1) := by decide +kernel
theorem d_X_run_2 : decode b_X_run 2 = .ok (.if_icmp .lt 9, 3) := by decide +kernel
theorem d_X_run_5 : decode b_X_run 5 = .ok (.iload_n 1, 1) := by decide +kernel
theorem d_X_run_6 : decode b_X_run 6 = .ok (.bipush 100, 2) := by decide +kernel
theorem d_X_run_8 : decode b_X_run 8 = .ok (.if_icmp .le 5, 3) := by decide +kernel
theorem d_X_run_11 : decode b_X_run 11 = .ok (.iconst (-1), 1) := by decide +kernel
theorem d_X_run_12 : decode b_X_run 12 = .ok (.ireturn, 1) := by decide +kernel
theorem d_X_run_13 : decode b_X_run 13 = .ok (.aload_n 0, 1) := by decide +kernel
theorem d_X_run_14 : decode b_X_run 14 = .ok (.iconst 1, 1) := by decide +kernel
theorem d_X_run_15 : decode b_X_run 15 = .ok (.putfield 60, 3) := by decide +kernel
theorem d_X_run_18 : decode b_X_run 18 = .ok (.iconst 0, 1) := by decide +kernel
theorem d_X_run_19 : decode b_X_run 19 = .ok (.istore_n 2, 1) := by decide +kernel
theorem d_X_run_20 : decode b_X_run 20 = .ok (.iconst 0, 1) := by decide +kernel
theorem d_X_run_21 : decode b_X_run 21 = .ok (.istore_n 3, 1) := by decide +kernel
theorem d_X_run_22 : decode b_X_run 22 = .ok (.iload_n 3, 1) := by decide +kernel
theorem d_X_run_23 : decode b_X_run 23 = .ok (.iload_n 1, 1) := by decide +kernel
theorem d_X_run_24 : decode b_X_run 24 = .ok (.if_icmp .ge 46, 3) := by decide +kernel
theorem d_X_run_27 : decode b_X_run 27 = .ok (.aload_n 0, 1) := by decide +kernel
theorem d_X_run_28 : decode b_X_run 28 = .ok (.getfield 23, 3) := by decide +kernel
theorem d_X_run_31 : decode b_X_run 31 = .ok (.getfield 92, 3) := by decide +kernel
theorem d_X_run_34 : decode b_X_run 34 = .ok (.sipush 290, 3) := by decide +kernel
theorem d_X_run_37 : decode b_X_run 37 = .ok (.if_icmp .gt 33, 3) := by decide +kernel
theorem d_X_run_40 : decode b_X_run 40 = .ok (.aload_n 0, 1) := by decide +kernel
theorem d_X_run_41 : decode b_X_run 41 = .ok (.getfield 53, 3) := by decide +kernel
theorem d_X_run_44 : decode b_X_run 44 = .ok (.aload_n 0, 1) := by decide +kernel
theorem d_X_run_45 : decode b_X_run 45 = .ok (.getfield 16, 3) := by decide +kernel
theorem d_X_run_48 : decode b_X_run 48 = .ok (.aload_n 0, 1) := by decide +kernel
theorem d_X_run_49 : decode b_X_run 49 = .ok (.getfield 32, 3) := by decide +kernel
theorem d_X_run_52 : decode b_X_run 52 = .ok (.invokevirtual 93, 3) := by decide +kernel
theorem d_X_run_55 : decode b_X_run 55 = .ok (.ifCond .ne 6, 3) := by decide +kernel
theorem d_X_run_58 : decode b_X_run 58 = .ok (.goto 12, 3) := by decide +kernel
theorem d_X_run_61 : decode b_X_run 61 = .ok (.iinc 2 1, 3) := by decide +kernel
theorem d_X_run_64 : decode b_X_run 64 = .ok (.iinc 3 1, 3) := by decide +kernel
theorem d_X_run_67 : decode b_X_run 67 = .ok (.goto (-45), 3) := by decide +kernel
theorem d_X_run_70 : decode b_X_run 70 = .ok (.iload_n 2, 1) := by decide +kernel
theorem d_X_run_71 : decode b_X_run 71 = .ok (.ireturn, 1) := by decide +kernel
theorem d_M_step_0 : decode b_M_step 0 = .ok (.aload_n 0, 1) := by decide +kernel
theorem d_M_step_1 : decode b_M_step 1 = .ok (.getfield 38, 3) := by decide +kernel
theorem d_M_step_4 : decode b_M_step 4 = .ok (.ifCond .eq 5, 3) := by decide +kernel
theorem d_M_step_7 : decode b_M_step 7 = .ok (.iconst 0, 1) := by decide +kernel
theorem d_M_step_8 : decode b_M_step 8 = .ok (.ireturn, 1) := by decide +kernel
theorem d_M_step_9 : decode b_M_step 9 = .ok (.aload_n 0, 1) := by decide +kernel
theorem d_M_step_10 : decode b_M_step 10 = .ok (.dup, 1) := by decide +kernel
theorem d_M_step_11 : decode b_M_step 11 = .ok (.getfield 47, 3) := by decide +kernel
theorem d_M_step_14 : decode b_M_step 14 = .ok (.iconst 1, 1) := by decide +kernel
theorem d_M_step_15 : decode b_M_step 15 = .ok (.iadd, 1) := by decide +kernel
theorem d_M_step_16 : decode b_M_step 16 = .ok (.putfield 47, 3) := by decide +kernel
theorem d_M_step_19 : decode b_M_step 19 = .ok (.aload_n 0, 1) := by decide +kernel
theorem d_M_step_20 : decode b_M_step 20 = .ok (.getfield 34, 3) := by decide +kernel
theorem d_M_step_23 : decode b_M_step 23 = .ok (.ifCond .ne 45, 3) := by decide +kernel
theorem d_M_step_26 : decode b_M_step 26 = .ok (.aload_n 1, 1) := by decide +kernel
theorem d_M_step_27 : decode b_M_step 27 = .ok (.bipush 16, 2) := by decide +kernel
theorem d_M_step_29 : decode b_M_step 29 = .ok (.invokevirtual 50, 3) := by decide +kernel
theorem d_M_step_32 : decode b_M_step 32 = .ok (.ifCond .eq 36, 3) := by decide +kernel
theorem d_M_step_35 : decode b_M_step 35 = .ok (.aload_n 2, 1) := by decide +kernel
theorem d_M_step_36 : decode b_M_step 36 = .ok (.aload_n 0, 1) := by decide +kernel
theorem d_M_step_37 : decode b_M_step 37 = .ok (.getfield 47, 3) := by decide +kernel
theorem d_M_step_40 : decode b_M_step 40 = .ok (.invokevirtual 56, 3) := by decide +kernel
theorem d_M_step_43 : decode b_M_step 43 = .ok (.ifCond .eq 25, 3) := by decide +kernel
theorem d_M_step_46 : decode b_M_step 46 = .ok (.aload_n 0, 1) := by decide +kernel
theorem d_M_step_47 : decode b_M_step 47 = .ok (.aload_n 0, 1) := by decide +kernel
theorem d_M_step_48 : decode b_M_step 48 = .ok (.getfield 28, 3) := by decide +kernel
theorem d_M_step_51 : decode b_M_step 51 = .ok (.putfield 31, 3) := by decide +kernel
theorem d_M_step_54 : decode b_M_step 54 = .ok (.aload_n 0, 1) := by decide +kernel
theorem d_M_step_55 : decode b_M_step 55 = .ok (.bipush 16, 2) := by decide +kernel
theorem d_M_step_57 : decode b_M_step 57 = .ok (.putfield 28, 3) := by decide +kernel
theorem d_M_step_60 : decode b_M_step 60 = .ok (.aload_n 0, 1) := by decide +kernel
theorem d_M_step_61 : decode b_M_step 61 = .ok (.iconst 1, 1) := by decide +kernel
theorem d_M_step_62 : decode b_M_step 62 = .ok (.putfield 34, 3) := by decide +kernel
theorem d_M_step_65 : decode b_M_step 65 = .ok (.goto 60, 3) := by decide +kernel
theorem d_M_step_68 : decode b_M_step 68 = .ok (.aload_n 1, 1) := by decide +kernel
theorem d_M_step_69 : decode b_M_step 69 = .ok (.aload_n 0, 1) := by decide +kernel
theorem d_M_step_70 : decode b_M_step 70 = .ok (.getfield 28, 3) := by decide +kernel
theorem d_M_step_73 : decode b_M_step 73 = .ok (.invokevirtual 50, 3) := by decide +kernel
theorem d_M_step_76 : decode b_M_step 76 = .ok (.ifCond .eq 44, 3) := by decide +kernel
theorem d_M_step_79 : decode b_M_step 79 = .ok (.aload_n 0, 1) := by decide +kernel
theorem d_M_step_80 : decode b_M_step 80 = .ok (.getfield 28, 3) := by decide +kernel
theorem d_M_step_83 : decode b_M_step 83 = .ok (.istore_n 3, 1) := by decide +kernel
theorem d_M_step_84 : decode b_M_step 84 = .ok (.aload_n 0, 1) := by decide +kernel
theorem d_M_step_85 : decode b_M_step 85 = .ok (.dup, 1) := by decide +kernel
theorem d_M_step_86 : decode b_M_step 86 = .ok (.getfield 28, 3) := by decide +kernel
theorem d_M_step_89 : decode b_M_step 89 = .ok (.iconst 1, 1) := by decide +kernel
theorem d_M_step_90 : decode b_M_step 90 = .ok (.iadd, 1) := by decide +kernel
theorem d_M_step_91 : decode b_M_step 91 = .ok (.putfield 28, 3) := by decide +kernel
theorem d_M_step_94 : decode b_M_step 94 = .ok (.aload_n 0, 1) := by decide +kernel
theorem d_M_step_95 : decode b_M_step 95 = .ok (.aload_n 1, 1) := by decide +kernel
theorem d_M_step_96 : decode b_M_step 96 = .ok (.getfield 61, 3) := by decide +kernel
theorem d_M_step_99 : decode b_M_step 99 = .ok (.iload_n 3, 1) := by decide +kernel
theorem d_M_step_100 : decode b_M_step 100 = .ok (.iaload, 1) := by decide +kernel
theorem d_M_step_101 : decode b_M_step 101 = .ok (.aload_n 1, 1) := by decide +kernel
theorem d_M_step_102 : decode b_M_step 102 = .ok (.getfield 64, 3) := by decide +kernel
theorem d_M_step_105 : decode b_M_step 105 = .ok (.iload_n 3, 1) := by decide +kernel
theorem d_M_step_106 : decode b_M_step 106 = .ok (.iaload, 1) := by decide +kernel
theorem d_M_step_107 : decode b_M_step 107 = .ok (.aload_n 1, 1) := by decide +kernel
theorem d_M_step_108 : decode b_M_step 108 = .ok (.getfield 67, 3) := by decide +kernel
theorem d_M_step_111 : decode b_M_step 111 = .ok (.iload_n 3, 1) := by decide +kernel
theorem d_M_step_112 : decode b_M_step 112 = .ok (.iaload, 1) := by decide +kernel
theorem d_M_step_113 : decode b_M_step 113 = .ok (.aload_n 2, 1) := by decide +kernel
theorem d_M_step_114 : decode b_M_step 114 = .ok (.invokevirtual 70, 3) := by decide +kernel
theorem d_M_step_117 : decode b_M_step 117 = .ok (.goto 8, 3) := by decide +kernel
theorem d_M_step_120 : decode b_M_step 120 = .ok (.aload_n 0, 1) := by decide +kernel
theorem d_M_step_121 : decode b_M_step 121 = .ok (.iconst 1, 1) := by decide +kernel
theorem d_M_step_122 : decode b_M_step 122 = .ok (.putfield 38, 3) := by decide +kernel
theorem d_M_step_125 : decode b_M_step 125 = .ok (.aload_n 0, 1) := by decide +kernel
theorem d_M_step_126 : decode b_M_step 126 = .ok (.invokevirtual 74, 3) := by decide +kernel
theorem d_M_step_129 : decode b_M_step 129 = .ok (.iconst 1, 1) := by decide +kernel
theorem d_M_step_130 : decode b_M_step 130 = .ok (.ireturn, 1) := by decide +kernel
theorem d_P_has_0 : decode b_P_has 0 = .ok (.iload_n 1, 1) := by decide +kernel
theorem d_P_has_1 : decode b_P_has 1 = .ok (.ifCond .lt 15, 3) := by decide +kernel
theorem d_P_has_4 : decode b_P_has 4 = .ok (.iload_n 1, 1) := by decide +kernel
theorem d_P_has_5 : decode b_P_has 5 = .ok (.aload_n 0, 1) := by decide +kernel
theorem d_P_has_6 : decode b_P_has 6 = .ok (.getfield 21, 3) := by decide +kernel
theorem d_P_has_9 : decode b_P_has 9 = .ok (.if_icmp .ge 7, 3) := by decide +kernel
theorem d_P_has_12 : decode b_P_has 12 = .ok (.iconst 1, 1) := by decide +kernel
theorem d_P_has_13 : decode b_P_has 13 = .ok (.goto 4, 3) := by decide +kernel
theorem d_P_has_16 : decode b_P_has 16 = .ok (.iconst 0, 1) := by decide +kernel
theorem d_P_has_17 : decode b_P_has 17 = .ok (.ireturn, 1) := by decide +kernel
theorem d_R_takeInterrupt_0 : decode b_R_takeInterrupt 0 = .ok (.aload_n 0, 1) := by decide +kernel
theorem d_R_takeInterrupt_1 : decode b_R_takeInterrupt 1 = .ok (.getfield 26, 3) := by decide +kernel
theorem d_R_takeInterrupt_4 : decode b_R_takeInterrupt 4 = .ok (.ifCond .ne 5, 3) := by decide +kernel
theorem d_R_takeInterrupt_7 : decode b_R_takeInterrupt 7 = .ok (.iconst 0, 1) := by decide +kernel
theorem d_R_takeInterrupt_8 : decode b_R_takeInterrupt 8 = .ok (.ireturn, 1) := by decide +kernel
theorem d_R_takeInterrupt_9 : decode b_R_takeInterrupt 9 = .ok (.aload_n 0, 1) := by decide +kernel
theorem d_R_takeInterrupt_10 : decode b_R_takeInterrupt 10 = .ok (.iconst 0, 1) := by decide +kernel
theorem d_R_takeInterrupt_11 : decode b_R_takeInterrupt 11 = .ok (.putfield 26, 3) := by decide +kernel
theorem d_R_takeInterrupt_14 : decode b_R_takeInterrupt 14 = .ok (.aload_n 0, 1) := by decide +kernel
theorem d_R_takeInterrupt_15 : decode b_R_takeInterrupt 15 = .ok (.getfield 15, 3) := by decide +kernel
theorem d_R_takeInterrupt_18 : decode b_R_takeInterrupt 18 = .ok (.iload_n 1, 1) := by decide +kernel
theorem d_R_takeInterrupt_19 : decode b_R_takeInterrupt 19 = .ok (.iconst 3, 1) := by decide +kernel
theorem d_R_takeInterrupt_20 : decode b_R_takeInterrupt 20 = .ok (.invokevirtual 33, 3) := by decide +kernel
theorem d_R_takeInterrupt_23 : decode b_R_takeInterrupt 23 = .ok (.iconst 1, 1) := by decide +kernel
theorem d_R_takeInterrupt_24 : decode b_R_takeInterrupt 24 = .ok (.ireturn, 1) := by decide +kernel
theorem d_J_beginEntry_0 : decode b_J_beginEntry 0 = .ok (.aload_n 0, 1) := by decide +kernel
theorem d_J_beginEntry_1 : decode b_J_beginEntry 1 = .ok (.iconst 4, 1) := by decide +kernel
theorem d_J_beginEntry_2 : decode b_J_beginEntry 2 = .ok (.iload_n 1, 1) := by decide +kernel
theorem d_J_beginEntry_3 : decode b_J_beginEntry 3 = .ok (.aload_n 0, 1) := by decide +kernel
theorem d_J_beginEntry_4 : decode b_J_beginEntry 4 = .ok (.getfield 25, 3) := by decide +kernel
theorem d_J_beginEntry_7 : decode b_J_beginEntry 7 = .ok (.isub, 1) := by decide +kernel
theorem d_J_beginEntry_8 : decode b_J_beginEntry 8 = .ok (.imul, 1) := by decide +kernel
theorem d_J_beginEntry_9 : decode b_J_beginEntry 9 = .ok (.iload_n 2, 1) := by decide +kernel
theorem d_J_beginEntry_10 : decode b_J_beginEntry 10 = .ok (.iadd, 1) := by decide +kernel
theorem d_J_beginEntry_11 : decode b_J_beginEntry 11 = .ok (.invokevirtual 28, 3) := by decide +kernel
theorem d_J_beginEntry_14 : decode b_J_beginEntry 14 = .ok (.aload_n 0, 1) := by decide +kernel
theorem d_J_beginEntry_15 : decode b_J_beginEntry 15 = .ok (.iload_n 1, 1) := by decide +kernel
theorem d_J_beginEntry_16 : decode b_J_beginEntry 16 = .ok (.putfield 25, 3) := by decide +kernel
theorem d_J_beginEntry_19 : decode b_J_beginEntry 19 = .ok (.aload_n 0, 1) := by decide +kernel
theorem d_J_beginEntry_20 : decode b_J_beginEntry 20 = .ok (.dup, 1) := by decide +kernel
theorem d_J_beginEntry_21 : decode b_J_beginEntry 21 = .ok (.getfield 22, 3) := by decide +kernel
theorem d_J_beginEntry_24 : decode b_J_beginEntry 24 = .ok (.iconst 1, 1) := by decide +kernel
theorem d_J_beginEntry_25 : decode b_J_beginEntry 25 = .ok (.iadd, 1) := by decide +kernel
theorem d_J_beginEntry_26 : decode b_J_beginEntry 26 = .ok (.putfield 22, 3) := by decide +kernel
theorem d_J_beginEntry_29 : decode b_J_beginEntry 29 = .ok (.return_, 1) := by decide +kernel
theorem d_J_writeNumber_0 : decode b_J_writeNumber 0 = .ok (.iload_n 1, 1) := by decide +kernel
theorem d_J_writeNumber_1 : decode b_J_writeNumber 1 = .ok (.istore_n 2, 1) := by decide +kernel
theorem d_J_writeNumber_2 : decode b_J_writeNumber 2 = .ok (.iconst 0, 1) := by decide +kernel
theorem d_J_writeNumber_3 : decode b_J_writeNumber 3 = .ok (.istore_n 3, 1) := by decide +kernel
theorem d_J_writeNumber_4 : decode b_J_writeNumber 4 = .ok (.iload_n 3, 1) := by decide +kernel
theorem d_J_writeNumber_5 : decode b_J_writeNumber 5 = .ok (.iconst 5, 1) := by decide +kernel
theorem d_J_writeNumber_6 : decode b_J_writeNumber 6 = .ok (.if_icmp .ge 88, 3) := by decide +kernel
theorem d_J_writeNumber_9 : decode b_J_writeNumber 9 = .ok (.aload_n 0, 1) := by decide +kernel
theorem d_J_writeNumber_10 : decode b_J_writeNumber 10 = .ok (.getfield 19, 3) := by decide +kernel
theorem d_J_writeNumber_13 : decode b_J_writeNumber 13 = .ok (.sipush 300, 3) := by decide +kernel
theorem d_J_writeNumber_16 : decode b_J_writeNumber 16 = .ok (.if_icmp .ge 78, 3) := by decide +kernel
theorem d_J_writeNumber_19 : decode b_J_writeNumber 19 = .ok (.iload_n 2, 1) := by decide +kernel
theorem d_J_writeNumber_20 : decode b_J_writeNumber 20 = .ok (.bipush 127, 2) := by decide +kernel
theorem d_J_writeNumber_22 : decode b_J_writeNumber 22 = .ok (.iand, 1) := by decide +kernel
theorem d_J_writeNumber_23 : decode b_J_writeNumber 23 = .ok (.istore 4, 2) := by decide +kernel
theorem d_J_writeNumber_25 : decode b_J_writeNumber 25 = .ok (.iload_n 2, 1) := by decide +kernel
theorem d_J_writeNumber_26 : decode b_J_writeNumber 26 = .ok (.bipush 7, 2) := by decide +kernel
theorem d_J_writeNumber_28 : decode b_J_writeNumber 28 = .ok (.iushr, 1) := by decide +kernel
theorem d_J_writeNumber_29 : decode b_J_writeNumber 29 = .ok (.istore_n 2, 1) := by decide +kernel
theorem d_J_writeNumber_30 : decode b_J_writeNumber 30 = .ok (.iload_n 2, 1) := by decide +kernel
theorem d_J_writeNumber_31 : decode b_J_writeNumber 31 = .ok (.ifCond .ne 8, 3) := by decide +kernel
theorem d_J_writeNumber_34 : decode b_J_writeNumber 34 = .ok (.iload 4, 2) := by decide +kernel
theorem d_J_writeNumber_36 : decode b_J_writeNumber 36 = .ok (.goto 9, 3) := by decide +kernel
theorem d_J_writeNumber_39 : decode b_J_writeNumber 39 = .ok (.iload 4, 2) := by decide +kernel
theorem d_J_writeNumber_41 : decode b_J_writeNumber 41 = .ok (.sipush 128, 3) := by decide +kernel
theorem d_J_writeNumber_44 : decode b_J_writeNumber 44 = .ok (.ior, 1) := by decide +kernel
theorem d_J_writeNumber_45 : decode b_J_writeNumber 45 = .ok (.istore 5, 2) := by decide +kernel
theorem d_J_writeNumber_47 : decode b_J_writeNumber 47 = .ok (.aload_n 0, 1) := by decide +kernel
theorem d_J_writeNumber_48 : decode b_J_writeNumber 48 = .ok (.getfield 9, 3) := by decide +kernel
theorem d_J_writeNumber_51 : decode b_J_writeNumber 51 = .ok (.aload_n 0, 1) := by decide +kernel
theorem d_J_writeNumber_52 : decode b_J_writeNumber 52 = .ok (.getfield 19, 3) := by decide +kernel
theorem d_J_writeNumber_55 : decode b_J_writeNumber 55 = .ok (.iload 5, 2) := by decide +kernel
theorem d_J_writeNumber_57 : decode b_J_writeNumber 57 = .ok (.iastore, 1) := by decide +kernel
theorem d_J_writeNumber_58 : decode b_J_writeNumber 58 = .ok (.aload_n 0, 1) := by decide +kernel
theorem d_J_writeNumber_59 : decode b_J_writeNumber 59 = .ok (.dup, 1) := by decide +kernel
theorem d_J_writeNumber_60 : decode b_J_writeNumber 60 = .ok (.getfield 19, 3) := by decide +kernel
theorem d_J_writeNumber_63 : decode b_J_writeNumber 63 = .ok (.iconst 1, 1) := by decide +kernel
theorem d_J_writeNumber_64 : decode b_J_writeNumber 64 = .ok (.iadd, 1) := by decide +kernel
theorem d_J_writeNumber_65 : decode b_J_writeNumber 65 = .ok (.putfield 19, 3) := by decide +kernel
theorem d_J_writeNumber_68 : decode b_J_writeNumber 68 = .ok (.aload_n 0, 1) := by decide +kernel
theorem d_J_writeNumber_69 : decode b_J_writeNumber 69 = .ok (.aload_n 0, 1) := by decide +kernel
theorem d_J_writeNumber_70 : decode b_J_writeNumber 70 = .ok (.getfield 15, 3) := by decide +kernel
theorem d_J_writeNumber_73 : decode b_J_writeNumber 73 = .ok (.iload 5, 2) := by decide +kernel
theorem d_J_writeNumber_75 : decode b_J_writeNumber 75 = .ok (.invokestatic 32, 3) := by decide +kernel
theorem d_J_writeNumber_78 : decode b_J_writeNumber 78 = .ok (.putfield 15, 3) := by decide +kernel
theorem d_J_writeNumber_81 : decode b_J_writeNumber 81 = .ok (.iload_n 2, 1) := by decide +kernel
theorem d_J_writeNumber_82 : decode b_J_writeNumber 82 = .ok (.ifCond .ne 6, 3) := by decide +kernel
theorem d_J_writeNumber_85 : decode b_J_writeNumber 85 = .ok (.goto 9, 3) := by decide +kernel
theorem d_J_writeNumber_88 : decode b_J_writeNumber 88 = .ok (.iinc 3 1, 3) := by decide +kernel
theorem d_J_writeNumber_91 : decode b_J_writeNumber 91 = .ok (.goto (-87), 3) := by decide +kernel
theorem d_J_writeNumber_94 : decode b_J_writeNumber 94 = .ok (.return_, 1) := by decide +kernel
theorem d_X_sealByte_0 : decode b_X_sealByte 0 = .ok (.iload_n 0, 1) := by decide +kernel
theorem d_X_sealByte_1 : decode b_X_sealByte 1 = .ok (.iload_n 1, 1) := by decide +kernel
theorem d_X_sealByte_2 : decode b_X_sealByte 2 = .ok (.invokestatic 142, 3) := by decide +kernel
theorem d_X_sealByte_5 : decode b_X_sealByte 5 = .ok (.istore_n 2, 1) := by decide +kernel
theorem d_X_sealByte_6 : decode b_X_sealByte 6 = .ok (.iload_n 2, 1) := by decide +kernel
theorem d_X_sealByte_7 : decode b_X_sealByte 7 = .ok (.iload_n 2, 1) := by decide +kernel
theorem d_X_sealByte_8 : decode b_X_sealByte 8 = .ok (.bipush 13, 2) := by decide +kernel
theorem d_X_sealByte_10 : decode b_X_sealByte 10 = .ok (.iushr, 1) := by decide +kernel
theorem d_X_sealByte_11 : decode b_X_sealByte 11 = .ok (.ixor, 1) := by decide +kernel
theorem d_X_sealByte_12 : decode b_X_sealByte 12 = .ok (.ireturn, 1) := by decide +kernel
