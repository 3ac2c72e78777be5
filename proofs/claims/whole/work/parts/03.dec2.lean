theorem d_J_sealNow_0 : decode b_J_sealNow 0 = .ok (.iconst 1, 1) := by decide +kernel
theorem d_J_sealNow_1 : decode b_J_sealNow 1 = .ok (.istore_n 1, 1) := by decide +kernel
theorem d_J_sealNow_2 : decode b_J_sealNow 2 = .ok (.iconst 0, 1) := by decide +kernel
theorem d_J_sealNow_3 : decode b_J_sealNow 3 = .ok (.istore_n 2, 1) := by decide +kernel
theorem d_J_sealNow_4 : decode b_J_sealNow 4 = .ok (.iload_n 2, 1) := by decide +kernel
theorem d_J_sealNow_5 : decode b_J_sealNow 5 = .ok (.aload_n 0, 1) := by decide +kernel
theorem d_J_sealNow_6 : decode b_J_sealNow 6 = .ok (.getfield 19, 3) := by decide +kernel
theorem d_J_sealNow_9 : decode b_J_sealNow 9 = .ok (.if_icmp .ge 20, 3) := by decide +kernel
theorem d_J_sealNow_12 : decode b_J_sealNow 12 = .ok (.iload_n 1, 1) := by decide +kernel
theorem d_J_sealNow_13 : decode b_J_sealNow 13 = .ok (.aload_n 0, 1) := by decide +kernel
theorem d_J_sealNow_14 : decode b_J_sealNow 14 = .ok (.getfield 9, 3) := by decide +kernel
theorem d_J_sealNow_17 : decode b_J_sealNow 17 = .ok (.iload_n 2, 1) := by decide +kernel
theorem d_J_sealNow_18 : decode b_J_sealNow 18 = .ok (.iaload, 1) := by decide +kernel
theorem d_J_sealNow_19 : decode b_J_sealNow 19 = .ok (.invokestatic 32, 3) := by decide +kernel
theorem d_J_sealNow_22 : decode b_J_sealNow 22 = .ok (.istore_n 1, 1) := by decide +kernel
theorem d_J_sealNow_23 : decode b_J_sealNow 23 = .ok (.iinc 2 1, 3) := by decide +kernel
theorem d_J_sealNow_26 : decode b_J_sealNow 26 = .ok (.goto (-22), 3) := by decide +kernel
theorem d_J_sealNow_29 : decode b_J_sealNow 29 = .ok (.iload_n 1, 1) := by decide +kernel
theorem d_J_sealNow_30 : decode b_J_sealNow 30 = .ok (.ireturn, 1) := by decide +kernel
theorem d_T_isReadable_0 : decode b_T_isReadable 0 = .ok (.aload_n 0, 1) := by decide +kernel
theorem d_T_isReadable_1 : decode b_T_isReadable 1 = .ok (.getfield 9, 3) := by decide +kernel
theorem d_T_isReadable_4 : decode b_T_isReadable 4 = .ok (.invokevirtual 15, 3) := by decide +kernel
theorem d_T_isReadable_7 : decode b_T_isReadable 7 = .ok (.iconst 0, 1) := by decide +kernel
theorem d_T_isReadable_8 : decode b_T_isReadable 8 = .ok (.istore_n 1, 1) := by decide +kernel
theorem d_T_isReadable_9 : decode b_T_isReadable 9 = .ok (.iload_n 1, 1) := by decide +kernel
theorem d_T_isReadable_10 : decode b_T_isReadable 10 = .ok (.sipush 300, 3) := by decide +kernel
theorem d_T_isReadable_13 : decode b_T_isReadable 13 = .ok (.if_icmp .ge 26, 3) := by decide +kernel
theorem d_T_isReadable_16 : decode b_T_isReadable 16 = .ok (.aload_n 0, 1) := by decide +kernel
theorem d_T_isReadable_17 : decode b_T_isReadable 17 = .ok (.getfield 9, 3) := by decide +kernel
theorem d_T_isReadable_20 : decode b_T_isReadable 20 = .ok (.getfield 20, 3) := by decide +kernel
theorem d_T_isReadable_23 : decode b_T_isReadable 23 = .ok (.ifCond .eq 16, 3) := by decide +kernel
theorem d_T_isReadable_26 : decode b_T_isReadable 26 = .ok (.aload_n 0, 1) := by decide +kernel
theorem d_T_isReadable_27 : decode b_T_isReadable 27 = .ok (.getfield 9, 3) := by decide +kernel
theorem d_T_isReadable_30 : decode b_T_isReadable 30 = .ok (.invokevirtual 24, 3) := by decide +kernel
theorem d_T_isReadable_33 : decode b_T_isReadable 33 = .ok (.iinc 1 1, 3) := by decide +kernel
theorem d_T_isReadable_36 : decode b_T_isReadable 36 = .ok (.goto (-27), 3) := by decide +kernel
theorem d_T_isReadable_39 : decode b_T_isReadable 39 = .ok (.aload_n 0, 1) := by decide +kernel
theorem d_T_isReadable_40 : decode b_T_isReadable 40 = .ok (.getfield 9, 3) := by decide +kernel
theorem d_T_isReadable_43 : decode b_T_isReadable 43 = .ok (.getfield 27, 3) := by decide +kernel
theorem d_T_isReadable_46 : decode b_T_isReadable 46 = .ok (.ifCond .ne 7, 3) := by decide +kernel
theorem d_T_isReadable_49 : decode b_T_isReadable 49 = .ok (.iconst 1, 1) := by decide +kernel
theorem d_T_isReadable_50 : decode b_T_isReadable 50 = .ok (.goto 4, 3) := by decide +kernel
theorem d_T_isReadable_53 : decode b_T_isReadable 53 = .ok (.iconst 0, 1) := by decide +kernel
theorem d_T_isReadable_54 : decode b_T_isReadable 54 = .ok (.ireturn, 1) := by decide +kernel
theorem d_D_rewind_0 : decode b_D_rewind 0 = .ok (.aload_n 0, 1) := by decide +kernel
theorem d_D_rewind_1 : decode b_D_rewind 1 = .ok (.iconst 0, 1) := by decide +kernel
theorem d_D_rewind_2 : decode b_D_rewind 2 = .ok (.putfield 15, 3) := by decide +kernel
theorem d_D_rewind_5 : decode b_D_rewind 5 = .ok (.aload_n 0, 1) := by decide +kernel
theorem d_D_rewind_6 : decode b_D_rewind 6 = .ok (.lconst 0, 1) := by decide +kernel
theorem d_D_rewind_7 : decode b_D_rewind 7 = .ok (.putfield 19, 3) := by decide +kernel
theorem d_D_rewind_10 : decode b_D_rewind 10 = .ok (.aload_n 0, 1) := by decide +kernel
theorem d_D_rewind_11 : decode b_D_rewind 11 = .ok (.iconst 0, 1) := by decide +kernel
theorem d_D_rewind_12 : decode b_D_rewind 12 = .ok (.putfield 23, 3) := by decide +kernel
theorem d_D_rewind_15 : decode b_D_rewind 15 = .ok (.aload_n 0, 1) := by decide +kernel
theorem d_D_rewind_16 : decode b_D_rewind 16 = .ok (.invokevirtual 27, 3) := by decide +kernel
theorem d_D_rewind_19 : decode b_D_rewind 19 = .ok (.return_, 1) := by decide +kernel
theorem d_T_restart_0 : decode b_T_restart 0 = .ok (.aload_n 0, 1) := by decide +kernel
theorem d_T_restart_1 : decode b_T_restart 1 = .ok (.iconst 0, 1) := by decide +kernel
theorem d_T_restart_2 : decode b_T_restart 2 = .ok (.putfield 30, 3) := by decide +kernel
theorem d_T_restart_5 : decode b_T_restart 5 = .ok (.aload_n 0, 1) := by decide +kernel
theorem d_T_restart_6 : decode b_T_restart 6 = .ok (.getfield 9, 3) := by decide +kernel
theorem d_T_restart_9 : decode b_T_restart 9 = .ok (.invokevirtual 15, 3) := by decide +kernel
theorem d_T_restart_12 : decode b_T_restart 12 = .ok (.return_, 1) := by decide +kernel
theorem d_M_looksLike_0 : decode b_M_looksLike 0 = .ok (.iconst 0, 1) := by decide +kernel
theorem d_M_looksLike_1 : decode b_M_looksLike 1 = .ok (.istore_n 2, 1) := by decide +kernel
theorem d_M_looksLike_2 : decode b_M_looksLike 2 = .ok (.iload_n 2, 1) := by decide +kernel
theorem d_M_looksLike_3 : decode b_M_looksLike 3 = .ok (.bipush 10, 2) := by decide +kernel
theorem d_M_looksLike_5 : decode b_M_looksLike 5 = .ok (.if_icmp .ge 24, 3) := by decide +kernel
theorem d_M_looksLike_8 : decode b_M_looksLike 8 = .ok (.aload_n 0, 1) := by decide +kernel
theorem d_M_looksLike_9 : decode b_M_looksLike 9 = .ok (.iload_n 2, 1) := by decide +kernel
theorem d_M_looksLike_10 : decode b_M_looksLike 10 = .ok (.invokevirtual 93, 3) := by decide +kernel
theorem d_M_looksLike_13 : decode b_M_looksLike 13 = .ok (.aload_n 1, 1) := by decide +kernel
theorem d_M_looksLike_14 : decode b_M_looksLike 14 = .ok (.iload_n 2, 1) := by decide +kernel
theorem d_M_looksLike_15 : decode b_M_looksLike 15 = .ok (.invokevirtual 93, 3) := by decide +kernel
theorem d_M_looksLike_18 : decode b_M_looksLike 18 = .ok (.if_icmp .eq 5, 3) := by decide +kernel
theorem d_M_looksLike_21 : decode b_M_looksLike 21 = .ok (.iconst 0, 1) := by decide +kernel
theorem d_M_looksLike_22 : decode b_M_looksLike 22 = .ok (.ireturn, 1) := by decide +kernel
theorem d_M_looksLike_23 : decode b_M_looksLike 23 = .ok (.iinc 2 1, 3) := by decide +kernel
theorem d_M_looksLike_26 : decode b_M_looksLike 26 = .ok (.goto (-24), 3) := by decide +kernel
theorem d_M_looksLike_29 : decode b_M_looksLike 29 = .ok (.iconst 0, 1) := by decide +kernel
theorem d_M_looksLike_30 : decode b_M_looksLike 30 = .ok (.istore_n 2, 1) := by decide +kernel
theorem d_M_looksLike_31 : decode b_M_looksLike 31 = .ok (.iload_n 2, 1) := by decide +kernel
theorem d_M_looksLike_32 : decode b_M_looksLike 32 = .ok (.bipush 32, 2) := by decide +kernel
theorem d_M_looksLike_34 : decode b_M_looksLike 34 = .ok (.if_icmp .ge 26, 3) := by decide +kernel
theorem d_M_looksLike_37 : decode b_M_looksLike 37 = .ok (.aload_n 0, 1) := by decide +kernel
theorem d_M_looksLike_38 : decode b_M_looksLike 38 = .ok (.getfield 15, 3) := by decide +kernel
theorem d_M_looksLike_41 : decode b_M_looksLike 41 = .ok (.iload_n 2, 1) := by decide +kernel
theorem d_M_looksLike_42 : decode b_M_looksLike 42 = .ok (.iaload, 1) := by decide +kernel
theorem d_M_looksLike_43 : decode b_M_looksLike 43 = .ok (.aload_n 1, 1) := by decide +kernel
theorem d_M_looksLike_44 : decode b_M_looksLike 44 = .ok (.getfield 15, 3) := by decide +kernel
theorem d_M_looksLike_47 : decode b_M_looksLike 47 = .ok (.iload_n 2, 1) := by decide +kernel
theorem d_M_looksLike_48 : decode b_M_looksLike 48 = .ok (.iaload, 1) := by decide +kernel
theorem d_M_looksLike_49 : decode b_M_looksLike 49 = .ok (.if_icmp .eq 5, 3) := by decide +kernel
theorem d_M_looksLike_52 : decode b_M_looksLike 52 = .ok (.iconst 0, 1) := by decide +kernel
theorem d_M_looksLike_53 : decode b_M_looksLike 53 = .ok (.ireturn, 1) := by decide +kernel
theorem d_M_looksLike_54 : decode b_M_looksLike 54 = .ok (.iinc 2 1, 3) := by decide +kernel
theorem d_M_looksLike_57 : decode b_M_looksLike 57 = .ok (.goto (-26), 3) := by decide +kernel
theorem d_M_looksLike_60 : decode b_M_looksLike 60 = .ok (.iconst 1, 1) := by decide +kernel
theorem d_M_looksLike_61 : decode b_M_looksLike 61 = .ok (.ireturn, 1) := by decide +kernel
theorem d_M_stateOf_0 : decode b_M_stateOf 0 = .ok (.iload_n 1, 1) := by decide +kernel
theorem d_M_stateOf_1 : decode b_M_stateOf 1 = .ok (.ifCond .lt 15, 3) := by decide +kernel
theorem d_M_stateOf_4 : decode b_M_stateOf 4 = .ok (.iload_n 1, 1) := by decide +kernel
theorem d_M_stateOf_5 : decode b_M_stateOf 5 = .ok (.iconst 4, 1) := by decide +kernel
theorem d_M_stateOf_6 : decode b_M_stateOf 6 = .ok (.if_icmp .ge 10, 3) := by decide +kernel
theorem d_M_stateOf_9 : decode b_M_stateOf 9 = .ok (.aload_n 0, 1) := by decide +kernel
theorem d_M_stateOf_10 : decode b_M_stateOf 10 = .ok (.getfield 9, 3) := by decide +kernel
theorem d_M_stateOf_13 : decode b_M_stateOf 13 = .ok (.iload_n 1, 1) := by decide +kernel
theorem d_M_stateOf_14 : decode b_M_stateOf 14 = .ok (.iaload, 1) := by decide +kernel
theorem d_M_stateOf_15 : decode b_M_stateOf 15 = .ok (.ireturn, 1) := by decide +kernel
theorem d_M_stateOf_16 : decode b_M_stateOf 16 = .ok (.iload_n 1, 1) := by decide +kernel
theorem d_M_stateOf_17 : decode b_M_stateOf 17 = .ok (.tableswitch 85 4 9 #[39, 44, 49, 54, 67, 80], 39) := by decide +kernel
theorem d_M_stateOf_56 : decode b_M_stateOf 56 = .ok (.aload_n 0, 1) := by decide +kernel
theorem d_M_stateOf_57 : decode b_M_stateOf 57 = .ok (.getfield 28, 3) := by decide +kernel
theorem d_M_stateOf_60 : decode b_M_stateOf 60 = .ok (.ireturn, 1) := by decide +kernel
theorem d_M_stateOf_61 : decode b_M_stateOf 61 = .ok (.aload_n 0, 1) := by decide +kernel
theorem d_M_stateOf_62 : decode b_M_stateOf 62 = .ok (.getfield 41, 3) := by decide +kernel
theorem d_M_stateOf_65 : decode b_M_stateOf 65 = .ok (.ireturn, 1) := by decide +kernel
theorem d_M_stateOf_66 : decode b_M_stateOf 66 = .ok (.aload_n 0, 1) := by decide +kernel
theorem d_M_stateOf_67 : decode b_M_stateOf 67 = .ok (.getfield 44, 3) := by decide +kernel
theorem d_M_stateOf_70 : decode b_M_stateOf 70 = .ok (.ireturn, 1) := by decide +kernel
theorem d_M_stateOf_71 : decode b_M_stateOf 71 = .ok (.aload_n 0, 1) := by decide +kernel
theorem d_M_stateOf_72 : decode b_M_stateOf 72 = .ok (.getfield 34, 3) := by decide +kernel
theorem d_M_stateOf_75 : decode b_M_stateOf 75 = .ok (.ifCond .eq 7, 3) := by decide +kernel
theorem d_M_stateOf_78 : decode b_M_stateOf 78 = .ok (.iconst 1, 1) := by decide +kernel
theorem d_M_stateOf_79 : decode b_M_stateOf 79 = .ok (.goto 4, 3) := by decide +kernel
theorem d_M_stateOf_82 : decode b_M_stateOf 82 = .ok (.iconst 0, 1) := by decide +kernel
theorem d_M_stateOf_83 : decode b_M_stateOf 83 = .ok (.ireturn, 1) := by decide +kernel
theorem d_M_stateOf_84 : decode b_M_stateOf 84 = .ok (.aload_n 0, 1) := by decide +kernel
theorem d_M_stateOf_85 : decode b_M_stateOf 85 = .ok (.getfield 38, 3) := by decide +kernel
theorem d_M_stateOf_88 : decode b_M_stateOf 88 = .ok (.ifCond .eq 7, 3) := by decide +kernel
theorem d_M_stateOf_91 : decode b_M_stateOf 91 = .ok (.iconst 1, 1) := by decide +kernel
theorem d_M_stateOf_92 : decode b_M_stateOf 92 = .ok (.goto 4, 3) := by decide +kernel
theorem d_M_stateOf_95 : decode b_M_stateOf 95 = .ok (.iconst 0, 1) := by decide +kernel
theorem d_M_stateOf_96 : decode b_M_stateOf 96 = .ok (.ireturn, 1) := by decide +kernel
theorem d_M_stateOf_97 : decode b_M_stateOf 97 = .ok (.aload_n 0, 1) := by decide +kernel
theorem d_M_stateOf_98 : decode b_M_stateOf 98 = .ok (.getfield 47, 3) := by decide +kernel
theorem d_M_stateOf_101 : decode b_M_stateOf 101 = .ok (.ireturn, 1) := by decide +kernel
theorem d_M_stateOf_102 : decode b_M_stateOf 102 = .ok (.iconst 0, 1) := by decide +kernel
theorem d_M_stateOf_103 : decode b_M_stateOf 103 = .ok (.ireturn, 1) := by decide +kernel
theorem d_X_state_0 : decode b_X_state 0 = .ok (.aload_n 0, 1) := by decide +kernel
theorem d_X_state_1 : decode b_X_state 1 = .ok (.iload_n 1, 1) := by decide +kernel
theorem d_X_state_2 : decode b_X_state 2 = .ok (.invokevirtual 127, 3) := by decide +kernel
theorem d_X_state_5 : decode b_X_state 5 = .ok (.astore_n 3, 1) := by decide +kernel
theorem d_X_state_6 : decode b_X_state 6 = .ok (.aload_n 3, 1) := by decide +kernel
theorem d_X_state_7 : decode b_X_state 7 = .ok (.ifnonnull 7, 3) := by decide +kernel
theorem d_X_state_10 : decode b_X_state 10 = .ok (.iconst 0, 1) := by decide +kernel
theorem d_X_state_11 : decode b_X_state 11 = .ok (.goto 8, 3) := by decide +kernel
theorem d_X_state_14 : decode b_X_state 14 = .ok (.aload_n 3, 1) := by decide +kernel
theorem d_X_state_15 : decode b_X_state 15 = .ok (.iload_n 2, 1) := by decide +kernel
theorem d_X_state_16 : decode b_X_state 16 = .ok (.invokevirtual 131, 3) := by decide +kernel
theorem d_X_state_19 : decode b_X_state 19 = .ok (.ireturn, 1) := by decide +kernel
theorem d_X_machineOf_0 : decode b_X_machineOf 0 = .ok (.iload_n 1, 1) := by decide +kernel
theorem d_X_machineOf_1 : decode b_X_machineOf 1 = .ok (.ifCond .ne 8, 3) := by decide +kernel
theorem d_X_machineOf_4 : decode b_X_machineOf 4 = .ok (.aload_n 0, 1) := by decide +kernel
theorem d_X_machineOf_5 : decode b_X_machineOf 5 = .ok (.getfield 53, 3) := by decide +kernel
theorem d_X_machineOf_8 : decode b_X_machineOf 8 = .ok (.areturn, 1) := by decide +kernel
theorem d_X_machineOf_9 : decode b_X_machineOf 9 = .ok (.iload_n 1, 1) := by decide +kernel
theorem d_X_machineOf_10 : decode b_X_machineOf 10 = .ok (.iconst 1, 1) := by decide +kernel
theorem d_X_machineOf_11 : decode b_X_machineOf 11 = .ok (.if_icmp .ne 10, 3) := by decide +kernel
theorem d_X_machineOf_14 : decode b_X_machineOf 14 = .ok (.aload_n 0, 1) := by decide +kernel
theorem d_X_machineOf_15 : decode b_X_machineOf 15 = .ok (.getfield 57, 3) := by decide +kernel
theorem d_X_machineOf_18 : decode b_X_machineOf 18 = .ok (.goto 4, 3) := by decide +kernel
theorem d_X_machineOf_21 : decode b_X_machineOf 21 = .ok (.aconst_null, 1) := by decide +kernel
theorem d_X_machineOf_22 : decode b_X_machineOf 22 = .ok (.areturn, 1) := by decide +kernel
theorem d_X_cell_0 : decode b_X_cell 0 = .ok (.aload_n 0, 1) := by decide +kernel
theorem d_X_cell_1 : decode b_X_cell 1 = .ok (.iload_n 1, 1) := by decide +kernel
theorem d_X_cell_2 : decode b_X_cell 2 = .ok (.invokevirtual 127, 3) := by decide +kernel
theorem d_X_cell_5 : decode b_X_cell 5 = .ok (.astore_n 3, 1) := by decide +kernel
theorem d_X_cell_6 : decode b_X_cell 6 = .ok (.aload_n 3, 1) := by decide +kernel
theorem d_X_cell_7 : decode b_X_cell 7 = .ok (.ifnonnull 7, 3) := by decide +kernel
theorem d_X_cell_10 : decode b_X_cell 10 = .ok (.iconst 0, 1) := by decide +kernel
theorem d_X_cell_11 : decode b_X_cell 11 = .ok (.goto 8, 3) := by decide +kernel
theorem d_X_cell_14 : decode b_X_cell 14 = .ok (.aload_n 3, 1) := by decide +kernel
theorem d_X_cell_15 : decode b_X_cell 15 = .ok (.iload_n 2, 1) := by decide +kernel
theorem d_X_cell_16 : decode b_X_cell 16 = .ok (.invokevirtual 134, 3) := by decide +kernel
theorem d_X_cell_19 : decode b_X_cell 19 = .ok (.ireturn, 1) := by decide +kernel
theorem d_M_cellOf_0 : decode b_M_cellOf 0 = .ok (.iload_n 1, 1) := by decide +kernel
theorem d_M_cellOf_1 : decode b_M_cellOf 1 = .ok (.ifCond .lt 18, 3) := by decide +kernel
theorem d_M_cellOf_4 : decode b_M_cellOf 4 = .ok (.iload_n 1, 1) := by decide +kernel
theorem d_M_cellOf_5 : decode b_M_cellOf 5 = .ok (.bipush 32, 2) := by decide +kernel
theorem d_M_cellOf_7 : decode b_M_cellOf 7 = .ok (.if_icmp .ge 12, 3) := by decide +kernel
theorem d_M_cellOf_10 : decode b_M_cellOf 10 = .ok (.aload_n 0, 1) := by decide +kernel
theorem d_M_cellOf_11 : decode b_M_cellOf 11 = .ok (.getfield 15, 3) := by decide +kernel
theorem d_M_cellOf_14 : decode b_M_cellOf 14 = .ok (.iload_n 1, 1) := by decide +kernel
theorem d_M_cellOf_15 : decode b_M_cellOf 15 = .ok (.iaload, 1) := by decide +kernel
theorem d_M_cellOf_16 : decode b_M_cellOf 16 = .ok (.goto 4, 3) := by decide +kernel
theorem d_M_cellOf_19 : decode b_M_cellOf 19 = .ok (.iconst 0, 1) := by decide +kernel
theorem d_M_cellOf_20 : decode b_M_cellOf 20 = .ok (.ireturn, 1) := by decide +kernel
theorem d_X_sealed_0 : decode b_X_sealed 0 = .ok (.iload_n 3, 1) := by decide +kernel
theorem d_X_sealed_1 : decode b_X_sealed 1 = .ok (.iconst 1, 1) := by decide +kernel
theorem d_X_sealed_2 : decode b_X_sealed 2 = .ok (.if_icmp .lt 8, 3) := by decide +kernel
theorem d_X_sealed_5 : decode b_X_sealed 5 = .ok (.iload_n 3, 1) := by decide +kernel
theorem d_X_sealed_6 : decode b_X_sealed 6 = .ok (.iconst 4, 1) := by decide +kernel
theorem d_X_sealed_7 : decode b_X_sealed 7 = .ok (.if_icmp .le 5, 3) := by decide +kernel
theorem d_X_sealed_10 : decode b_X_sealed 10 = .ok (.iconst 0, 1) := by decide +kernel
theorem d_X_sealed_11 : decode b_X_sealed 11 = .ok (.ireturn, 1) := by decide +kernel
theorem d_X_sealed_12 : decode b_X_sealed 12 = .ok (.iload_n 1, 1) := by decide +kernel
theorem d_X_sealed_13 : decode b_X_sealed 13 = .ok (.istore 4, 2) := by decide +kernel
theorem d_X_sealed_15 : decode b_X_sealed 15 = .ok (.iload_n 3, 1) := by decide +kernel
theorem d_X_sealed_16 : decode b_X_sealed 16 = .ok (.iconst 1, 1) := by decide +kernel
theorem d_X_sealed_17 : decode b_X_sealed 17 = .ok (.isub, 1) := by decide +kernel
theorem d_X_sealed_18 : decode b_X_sealed 18 = .ok (.istore 5, 2) := by decide +kernel
theorem d_X_sealed_20 : decode b_X_sealed 20 = .ok (.iload 5, 2) := by decide +kernel
theorem d_X_sealed_22 : decode b_X_sealed 22 = .ok (.ifCond .lt 27, 3) := by decide +kernel
theorem d_X_sealed_25 : decode b_X_sealed 25 = .ok (.iload 4, 2) := by decide +kernel
theorem d_X_sealed_27 : decode b_X_sealed 27 = .ok (.iload_n 2, 1) := by decide +kernel
theorem d_X_sealed_28 : decode b_X_sealed 28 = .ok (.bipush 8, 2) := by decide +kernel
theorem d_X_sealed_30 : decode b_X_sealed 30 = .ok (.iload 5, 2) := by decide +kernel
theorem d_X_sealed_32 : decode b_X_sealed 32 = .ok (.imul, 1) := by decide +kernel
theorem d_X_sealed_33 : decode b_X_sealed 33 = .ok (.iushr, 1) := by decide +kernel
theorem d_X_sealed_34 : decode b_X_sealed 34 = .ok (.sipush 255, 3) := by decide +kernel
theorem d_X_sealed_37 : decode b_X_sealed 37 = .ok (.iand, 1) := by decide +kernel
theorem d_X_sealed_38 : decode b_X_sealed 38 = .ok (.invokestatic 137, 3) := by decide +kernel
theorem d_X_sealed_41 : decode b_X_sealed 41 = .ok (.istore 4, 2) := by decide +kernel
theorem d_X_sealed_43 : decode b_X_sealed 43 = .ok (.iinc 5 (-1), 3) := by decide +kernel
theorem d_X_sealed_46 : decode b_X_sealed 46 = .ok (.goto (-26), 3) := by decide +kernel
theorem d_X_sealed_49 : decode b_X_sealed 49 = .ok (.iload 4, 2) := by decide +kernel
theorem d_X_sealed_51 : decode b_X_sealed 51 = .ok (.ireturn, 1) := by decide +kernel
theorem d_L_cell_0 : decode b_L_cell 0 = .ok (.iload_n 1, 1) := by decide +kernel
theorem d_L_cell_1 : decode b_L_cell 1 = .ok (.aload_n 0, 1) := by decide +kernel
theorem d_L_cell_2 : decode b_L_cell 2 = .ok (.arraylength, 1) := by decide +kernel
theorem d_L_cell_3 : decode b_L_cell 3 = .ok (.if_icmp .ge 9, 3) := by decide +kernel
theorem d_L_cell_6 : decode b_L_cell 6 = .ok (.aload_n 0, 1) := by decide +kernel
theorem d_L_cell_7 : decode b_L_cell 7 = .ok (.iload_n 1, 1) := by decide +kernel
theorem d_L_cell_8 : decode b_L_cell 8 = .ok (.iaload, 1) := by decide +kernel
theorem d_L_cell_9 : decode b_L_cell 9 = .ok (.goto 4, 3) := by decide +kernel
theorem d_L_cell_12 : decode b_L_cell 12 = .ok (.iconst 0, 1) := by decide +kernel
theorem d_L_cell_13 : decode b_L_cell 13 = .ok (.ireturn, 1) := by decide +kernel
theorem d_Y_init_0 : decode b_Y_init 0 = .ok (.aload_n 0, 1) := by decide +kernel
theorem d_Y_init_1 : decode b_Y_init 1 = .ok (.invokespecial 1, 3) := by decide +kernel
theorem d_Y_init_4 : decode b_Y_init 4 = .ok (.aload_n 0, 1) := by decide +kernel
theorem d_Y_init_5 : decode b_Y_init 5 = .ok (.bipush 24, 2) := by decide +kernel
theorem d_Y_init_7 : decode b_Y_init 7 = .ok (.newarray .int, 2) := by decide +kernel
theorem d_Y_init_9 : decode b_Y_init 9 = .ok (.putfield 7, 3) := by decide +kernel
theorem d_Y_init_12 : decode b_Y_init 12 = .ok (.aload_n 0, 1) := by decide +kernel
theorem d_Y_init_13 : decode b_Y_init 13 = .ok (.bipush 24, 2) := by decide +kernel
theorem d_Y_init_15 : decode b_Y_init 15 = .ok (.newarray .int, 2) := by decide +kernel
theorem d_Y_init_17 : decode b_Y_init 17 = .ok (.putfield 13, 3) := by decide +kernel
theorem d_Y_init_20 : decode b_Y_init 20 = .ok (.aload_n 0, 1) := by decide +kernel
theorem d_Y_init_21 : decode b_Y_init 21 = .ok (.bipush 24, 2) := by decide +kernel
theorem d_Y_init_23 : decode b_Y_init 23 = .ok (.newarray .int, 2) := by decide +kernel
theorem d_Y_init_25 : decode b_Y_init 25 = .ok (.putfield 16, 3) := by decide +kernel
theorem d_Y_init_28 : decode b_Y_init 28 = .ok (.aload_n 0, 1) := by decide +kernel
theorem d_Y_init_29 : decode b_Y_init 29 = .ok (.bipush 96, 2) := by decide +kernel
theorem d_Y_init_31 : decode b_Y_init 31 = .ok (.newarray .int, 2) := by decide +kernel
theorem d_Y_init_33 : decode b_Y_init 33 = .ok (.putfield 19, 3) := by decide +kernel
theorem d_Y_init_36 : decode b_Y_init 36 = .ok (.aload_n 0, 1) := by decide +kernel
theorem d_Y_init_37 : decode b_Y_init 37 = .ok (.bipush 16, 2) := by decide +kernel
theorem d_Y_init_39 : decode b_Y_init 39 = .ok (.newarray .int, 2) := by decide +kernel
theorem d_Y_init_41 : decode b_Y_init 41 = .ok (.putfield 22, 3) := by decide +kernel
theorem d_Y_init_44 : decode b_Y_init 44 = .ok (.aload_n 0, 1) := by decide +kernel
theorem d_Y_init_45 : decode b_Y_init 45 = .ok (.sipush 320, 3) := by decide +kernel
theorem d_Y_init_48 : decode b_Y_init 48 = .ok (.newarray .int, 2) := by decide +kernel
theorem d_Y_init_50 : decode b_Y_init 50 = .ok (.putfield 25, 3) := by decide +kernel
theorem d_Y_init_53 : decode b_Y_init 53 = .ok (.aload_n 0, 1) := by decide +kernel
theorem d_Y_init_54 : decode b_Y_init 54 = .ok (.iconst 1, 1) := by decide +kernel
theorem d_Y_init_55 : decode b_Y_init 55 = .ok (.putfield 28, 3) := by decide +kernel
theorem d_Y_init_58 : decode b_Y_init 58 = .ok (.aload_n 0, 1) := by decide +kernel
theorem d_Y_init_59 : decode b_Y_init 59 = .ok (.sipush 320, 3) := by decide +kernel
theorem d_Y_init_62 : decode b_Y_init 62 = .ok (.newarray .long, 2) := by decide +kernel
theorem d_Y_init_64 : decode b_Y_init 64 = .ok (.putfield 32, 3) := by decide +kernel
theorem d_Y_init_67 : decode b_Y_init 67 = .ok (.aload_n 0, 1) := by decide +kernel
theorem d_Y_init_68 : decode b_Y_init 68 = .ok (.sipush 320, 3) := by decide +kernel
theorem d_Y_init_71 : decode b_Y_init 71 = .ok (.newarray .int, 2) := by decide +kernel
theorem d_Y_init_73 : decode b_Y_init 73 = .ok (.putfield 36, 3) := by decide +kernel
theorem d_Y_init_76 : decode b_Y_init 76 = .ok (.aload_n 0, 1) := by decide +kernel
theorem d_Y_init_77 : decode b_Y_init 77 = .ok (.sipush 320, 3) := by decide +kernel
theorem d_Y_init_80 : decode b_Y_init 80 = .ok (.newarray .int, 2) := by decide +kernel
theorem d_Y_init_82 : decode b_Y_init 82 = .ok (.putfield 39, 3) := by decide +kernel
theorem d_Y_init_85 : decode b_Y_init 85 = .ok (.aload_n 0, 1) := by decide +kernel
theorem d_Y_init_86 : decode b_Y_init 86 = .ok (.iload_n 1, 1) := by decide +kernel
theorem d_Y_init_87 : decode b_Y_init 87 = .ok (.putfield 42, 3) := by decide +kernel
theorem d_Y_init_90 : decode b_Y_init 90 = .ok (.aload_n 0, 1) := by decide +kernel
theorem d_Y_init_91 : decode b_Y_init 91 = .ok (.getfield 19, 3) := by decide +kernel
theorem d_Y_init_94 : decode b_Y_init 94 = .ok (.bipush 11, 2) := by decide +kernel
theorem d_Y_init_96 : decode b_Y_init 96 = .ok (.iload_n 1, 1) := by decide +kernel
theorem d_Y_init_97 : decode b_Y_init 97 = .ok (.iastore, 1) := by decide +kernel
theorem d_Y_init_98 : decode b_Y_init 98 = .ok (.return_, 1) := by decide +kernel
theorem d_Y_add_0 : decode b_Y_add 0 = .ok (.iload_n 1, 1) := by decide +kernel
theorem d_Y_add_1 : decode b_Y_add 1 = .ok (.iconst 0, 1) := by decide +kernel
theorem d_Y_add_2 : decode b_Y_add 2 = .ok (.bipush 12, 2) := by decide +kernel
theorem d_Y_add_4 : decode b_Y_add 4 = .ok (.invokestatic 45, 3) := by decide +kernel
theorem d_Y_add_7 : decode b_Y_add 7 = .ok (.ifCond .eq 44, 3) := by decide +kernel
theorem d_Y_add_10 : decode b_Y_add 10 = .ok (.aload_n 0, 1) := by decide +kernel
theorem d_Y_add_11 : decode b_Y_add 11 = .ok (.getfield 49, 3) := by decide +kernel
theorem d_Y_add_14 : decode b_Y_add 14 = .ok (.bipush 24, 2) := by decide +kernel
theorem d_Y_add_16 : decode b_Y_add 16 = .ok (.if_icmp .ge 35, 3) := by decide +kernel
theorem d_Y_add_19 : decode b_Y_add 19 = .ok (.aload_n 0, 1) := by decide +kernel
theorem d_Y_add_20 : decode b_Y_add 20 = .ok (.getfield 52, 3) := by decide +kernel
theorem d_Y_add_23 : decode b_Y_add 23 = .ok (.ifCond .ne 28, 3) := by decide +kernel
theorem d_Y_add_26 : decode b_Y_add 26 = .ok (.iload_n 1, 1) := by decide +kernel
theorem d_Y_add_27 : decode b_Y_add 27 = .ok (.iconst 5, 1) := by decide +kernel
theorem d_Y_add_28 : decode b_Y_add 28 = .ok (.if_icmp .eq 9, 3) := by decide +kernel
theorem d_Y_add_31 : decode b_Y_add 31 = .ok (.iload_n 1, 1) := by decide +kernel
theorem d_Y_add_32 : decode b_Y_add 32 = .ok (.bipush 6, 2) := by decide +kernel
theorem d_Y_add_34 : decode b_Y_add 34 = .ok (.if_icmp .ne 13, 3) := by decide +kernel
theorem d_Y_add_37 : decode b_Y_add 37 = .ok (.iload_n 3, 1) := by decide +kernel
theorem d_Y_add_38 : decode b_Y_add 38 = .ok (.iconst 0, 1) := by decide +kernel
theorem d_Y_add_39 : decode b_Y_add 39 = .ok (.bipush 23, 2) := by decide +kernel
theorem d_Y_add_41 : decode b_Y_add 41 = .ok (.invokestatic 45, 3) := by decide +kernel
theorem d_Y_add_44 : decode b_Y_add 44 = .ok (.ifCond .eq 7, 3) := by decide +kernel
theorem d_Y_add_47 : decode b_Y_add 47 = .ok (.iconst 1, 1) := by decide +kernel
theorem d_Y_add_48 : decode b_Y_add 48 = .ok (.goto 4, 3) := by decide +kernel
theorem d_Y_add_51 : decode b_Y_add 51 = .ok (.iconst 0, 1) := by decide +kernel
theorem d_Y_add_52 : decode b_Y_add 52 = .ok (.istore 4, 2) := by decide +kernel
theorem d_Y_add_54 : decode b_Y_add 54 = .ok (.iload 4, 2) := by decide +kernel
theorem d_Y_add_56 : decode b_Y_add 56 = .ok (.ifCond .ne 5, 3) := by decide +kernel
theorem d_Y_add_59 : decode b_Y_add 59 = .ok (.iconst (-1), 1) := by decide +kernel
theorem d_Y_add_60 : decode b_Y_add 60 = .ok (.ireturn, 1) := by decide +kernel
theorem d_Y_add_61 : decode b_Y_add 61 = .ok (.aload_n 0, 1) := by decide +kernel
theorem d_Y_add_62 : decode b_Y_add 62 = .ok (.getfield 7, 3) := by decide +kernel
theorem d_Y_add_65 : decode b_Y_add 65 = .ok (.aload_n 0, 1) := by decide +kernel
theorem d_Y_add_66 : decode b_Y_add 66 = .ok (.getfield 49, 3) := by decide +kernel
theorem d_Y_add_69 : decode b_Y_add 69 = .ok (.iload_n 1, 1) := by decide +kernel
theorem d_Y_add_70 : decode b_Y_add 70 = .ok (.iastore, 1) := by decide +kernel
theorem d_Y_add_71 : decode b_Y_add 71 = .ok (.aload_n 0, 1) := by decide +kernel
theorem d_Y_add_72 : decode b_Y_add 72 = .ok (.getfield 13, 3) := by decide +kernel
theorem d_Y_add_75 : decode b_Y_add 75 = .ok (.aload_n 0, 1) := by decide +kernel
theorem d_Y_add_76 : decode b_Y_add 76 = .ok (.getfield 49, 3) := by decide +kernel
theorem d_Y_add_79 : decode b_Y_add 79 = .ok (.iload_n 2, 1) := by decide +kernel
theorem d_Y_add_80 : decode b_Y_add 80 = .ok (.iastore, 1) := by decide +kernel
theorem d_Y_add_81 : decode b_Y_add 81 = .ok (.aload_n 0, 1) := by decide +kernel
theorem d_Y_add_82 : decode b_Y_add 82 = .ok (.getfield 16, 3) := by decide +kernel
theorem d_Y_add_85 : decode b_Y_add 85 = .ok (.aload_n 0, 1) := by decide +kernel
theorem d_Y_add_86 : decode b_Y_add 86 = .ok (.getfield 49, 3) := by decide +kernel
theorem d_Y_add_89 : decode b_Y_add 89 = .ok (.iload_n 3, 1) := by decide +kernel
theorem d_Y_add_90 : decode b_Y_add 90 = .ok (.iastore, 1) := by decide +kernel
theorem d_Y_add_91 : decode b_Y_add 91 = .ok (.aload_n 0, 1) := by decide +kernel
theorem d_Y_add_92 : decode b_Y_add 92 = .ok (.aload_n 0, 1) := by decide +kernel
theorem d_Y_add_93 : decode b_Y_add 93 = .ok (.getfield 49, 3) := by decide +kernel
theorem d_Y_add_96 : decode b_Y_add 96 = .ok (.iconst 1, 1) := by decide +kernel
theorem d_Y_add_97 : decode b_Y_add 97 = .ok (.iadd, 1) := by decide +kernel
theorem d_Y_add_98 : decode b_Y_add 98 = .ok (.putfield 49, 3) := by decide +kernel
theorem d_Y_add_101 : decode b_Y_add 101 = .ok (.aload_n 0, 1) := by decide +kernel
theorem d_Y_add_102 : decode b_Y_add 102 = .ok (.getfield 49, 3) := by decide +kernel
theorem d_Y_add_105 : decode b_Y_add 105 = .ok (.iconst 1, 1) := by decide +kernel
theorem d_Y_add_106 : decode b_Y_add 106 = .ok (.isub, 1) := by decide +kernel
theorem d_Y_add_107 : decode b_Y_add 107 = .ok (.ireturn, 1) := by decide +kernel
theorem d_Y_in_0 : decode b_Y_in 0 = .ok (.iload_n 0, 1) := by decide +kernel
theorem d_Y_in_1 : decode b_Y_in 1 = .ok (.iload_n 1, 1) := by decide +kernel
theorem d_Y_in_2 : decode b_Y_in 2 = .ok (.if_icmp .lt 12, 3) := by decide +kernel
theorem d_Y_in_5 : decode b_Y_in 5 = .ok (.iload_n 0, 1) := by decide +kernel
theorem d_Y_in_6 : decode b_Y_in 6 = .ok (.iload_n 2, 1) := by decide +kernel
theorem d_Y_in_7 : decode b_Y_in 7 = .ok (.if_icmp .gt 7, 3) := by decide +kernel
theorem d_Y_in_10 : decode b_Y_in 10 = .ok (.iconst 1, 1) := by decide +kernel
theorem d_Y_in_11 : decode b_Y_in 11 = .ok (.goto 4, 3) := by decide +kernel
theorem d_Y_in_14 : decode b_Y_in 14 = .ok (.iconst 0, 1) := by decide +kernel
theorem d_Y_in_15 : decode b_Y_in 15 = .ok (.ireturn, 1) := by decide +kernel
theorem d_Y_clear_0 : decode b_Y_clear 0 = .ok (.aload_n 0, 1) := by decide +kernel
theorem d_Y_clear_1 : decode b_Y_clear 1 = .ok (.getfield 49, 3) := by decide +kernel
theorem d_Y_clear_4 : decode b_Y_clear 4 = .ok (.istore_n 1, 1) := by decide +kernel
theorem d_Y_clear_5 : decode b_Y_clear 5 = .ok (.aload_n 0, 1) := by decide +kernel
theorem d_Y_clear_6 : decode b_Y_clear 6 = .ok (.iconst 0, 1) := by decide +kernel
theorem d_Y_clear_7 : decode b_Y_clear 7 = .ok (.putfield 49, 3) := by decide +kernel
theorem d_Y_clear_10 : decode b_Y_clear 10 = .ok (.aload_n 0, 1) := by decide +kernel
theorem d_Y_clear_11 : decode b_Y_clear 11 = .ok (.iconst 0, 1) := by decide +kernel
theorem d_Y_clear_12 : decode b_Y_clear 12 = .ok (.putfield 52, 3) := by decide +kernel
theorem d_Y_clear_15 : decode b_Y_clear 15 = .ok (.aload_n 0, 1) := by decide +kernel
theorem d_Y_clear_16 : decode b_Y_clear 16 = .ok (.iconst 0, 1) := by decide +kernel
theorem d_Y_clear_17 : decode b_Y_clear 17 = .ok (.invokevirtual 56, 3) := by decide +kernel
theorem d_Y_clear_20 : decode b_Y_clear 20 = .ok (.aload_n 0, 1) := by decide +kernel
theorem d_Y_clear_21 : decode b_Y_clear 21 = .ok (.iconst 0, 1) := by decide +kernel
theorem d_Y_clear_22 : decode b_Y_clear 22 = .ok (.putfield 60, 3) := by decide +kernel
theorem d_Y_clear_25 : decode b_Y_clear 25 = .ok (.aload_n 0, 1) := by decide +kernel
theorem d_Y_clear_26 : decode b_Y_clear 26 = .ok (.iconst 0, 1) := by decide +kernel
theorem d_Y_clear_27 : decode b_Y_clear 27 = .ok (.putfield 63, 3) := by decide +kernel
theorem d_Y_clear_30 : decode b_Y_clear 30 = .ok (.aload_n 0, 1) := by decide +kernel
theorem d_Y_clear_31 : decode b_Y_clear 31 = .ok (.iconst 0, 1) := by decide +kernel
theorem d_Y_clear_32 : decode b_Y_clear 32 = .ok (.putfield 66, 3) := by decide +kernel
theorem d_Y_clear_35 : decode b_Y_clear 35 = .ok (.aload_n 0, 1) := by decide +kernel
theorem d_Y_clear_36 : decode b_Y_clear 36 = .ok (.iconst 0, 1) := by decide +kernel
theorem d_Y_clear_37 : decode b_Y_clear 37 = .ok (.putfield 69, 3) := by decide +kernel
theorem d_Y_clear_40 : decode b_Y_clear 40 = .ok (.aload_n 0, 1) := by decide +kernel
theorem d_Y_clear_41 : decode b_Y_clear 41 = .ok (.iconst 0, 1) := by decide +kernel
theorem d_Y_clear_42 : decode b_Y_clear 42 = .ok (.putfield 72, 3) := by decide +kernel
theorem d_Y_clear_45 : decode b_Y_clear 45 = .ok (.aload_n 0, 1) := by decide +kernel
theorem d_Y_clear_46 : decode b_Y_clear 46 = .ok (.iconst 0, 1) := by decide +kernel
theorem d_Y_clear_47 : decode b_Y_clear 47 = .ok (.putfield 75, 3) := by decide +kernel
theorem d_Y_clear_50 : decode b_Y_clear 50 = .ok (.aload_n 0, 1) := by decide +kernel
theorem d_Y_clear_51 : decode b_Y_clear 51 = .ok (.iconst 1, 1) := by decide +kernel
theorem d_Y_clear_52 : decode b_Y_clear 52 = .ok (.putfield 28, 3) := by decide +kernel
theorem d_Y_clear_55 : decode b_Y_clear 55 = .ok (.iload_n 1, 1) := by decide +kernel
theorem d_Y_clear_56 : decode b_Y_clear 56 = .ok (.ireturn, 1) := by decide +kernel
theorem d_Y_anew_0 : decode b_Y_anew 0 = .ok (.iconst 0, 1) := by decide +kernel
theorem d_Y_anew_1 : decode b_Y_anew 1 = .ok (.istore_n 2, 1) := by decide +kernel
theorem d_Y_anew_2 : decode b_Y_anew 2 = .ok (.iload_n 2, 1) := by decide +kernel
theorem d_Y_anew_3 : decode b_Y_anew 3 = .ok (.bipush 48, 2) := by decide +kernel
theorem d_Y_anew_5 : decode b_Y_anew 5 = .ok (.if_icmp .ge 18, 3) := by decide +kernel
theorem d_Y_anew_8 : decode b_Y_anew 8 = .ok (.aload_n 0, 1) := by decide +kernel
theorem d_Y_anew_9 : decode b_Y_anew 9 = .ok (.getfield 19, 3) := by decide +kernel
theorem d_Y_anew_12 : decode b_Y_anew 12 = .ok (.iload_n 1, 1) := by decide +kernel
theorem d_Y_anew_13 : decode b_Y_anew 13 = .ok (.iload_n 2, 1) := by decide +kernel
theorem d_Y_anew_14 : decode b_Y_anew 14 = .ok (.iadd, 1) := by decide +kernel
theorem d_Y_anew_15 : decode b_Y_anew 15 = .ok (.iconst 0, 1) := by decide +kernel
theorem d_Y_anew_16 : decode b_Y_anew 16 = .ok (.iastore, 1) := by decide +kernel
theorem d_Y_anew_17 : decode b_Y_anew 17 = .ok (.iinc 2 1, 3) := by decide +kernel
theorem d_Y_anew_20 : decode b_Y_anew 20 = .ok (.goto (-18), 3) := by decide +kernel
theorem d_Y_anew_23 : decode b_Y_anew 23 = .ok (.aload_n 0, 1) := by decide +kernel
theorem d_Y_anew_24 : decode b_Y_anew 24 = .ok (.getfield 19, 3) := by decide +kernel
theorem d_Y_anew_27 : decode b_Y_anew 27 = .ok (.iload_n 1, 1) := by decide +kernel
theorem d_Y_anew_28 : decode b_Y_anew 28 = .ok (.bipush 11, 2) := by decide +kernel
theorem d_Y_anew_30 : decode b_Y_anew 30 = .ok (.iadd, 1) := by decide +kernel
theorem d_Y_anew_31 : decode b_Y_anew 31 = .ok (.aload_n 0, 1) := by decide +kernel
theorem d_Y_anew_32 : decode b_Y_anew 32 = .ok (.getfield 42, 3) := by decide +kernel
theorem d_Y_anew_35 : decode b_Y_anew 35 = .ok (.iastore, 1) := by decide +kernel
theorem d_Y_anew_36 : decode b_Y_anew 36 = .ok (.return_, 1) := by decide +kernel
theorem d_Y_input_0 : decode b_Y_input 0 = .ok (.aload_n 0, 1) := by decide +kernel
theorem d_Y_input_1 : decode b_Y_input 1 = .ok (.getfield 63, 3) := by decide +kernel
theorem d_Y_input_4 : decode b_Y_input 4 = .ok (.bipush 16, 2) := by decide +kernel
theorem d_Y_input_6 : decode b_Y_input 6 = .ok (.if_icmp .lt 5, 3) := by decide +kernel
theorem d_Y_input_9 : decode b_Y_input 9 = .ok (.iconst (-1), 1) := by decide +kernel
theorem d_Y_input_10 : decode b_Y_input 10 = .ok (.ireturn, 1) := by decide +kernel
theorem d_Y_input_11 : decode b_Y_input 11 = .ok (.aload_n 0, 1) := by decide +kernel
theorem d_Y_input_12 : decode b_Y_input 12 = .ok (.getfield 22, 3) := by decide +kernel
theorem d_Y_input_15 : decode b_Y_input 15 = .ok (.aload_n 0, 1) := by decide +kernel
theorem d_Y_input_16 : decode b_Y_input 16 = .ok (.getfield 63, 3) := by decide +kernel
theorem d_Y_input_19 : decode b_Y_input 19 = .ok (.iload_n 1, 1) := by decide +kernel
theorem d_Y_input_20 : decode b_Y_input 20 = .ok (.iastore, 1) := by decide +kernel
theorem d_Y_input_21 : decode b_Y_input 21 = .ok (.aload_n 0, 1) := by decide +kernel
theorem d_Y_input_22 : decode b_Y_input 22 = .ok (.aload_n 0, 1) := by decide +kernel
theorem d_Y_input_23 : decode b_Y_input 23 = .ok (.getfield 63, 3) := by decide +kernel
theorem d_Y_input_26 : decode b_Y_input 26 = .ok (.iconst 1, 1) := by decide +kernel
theorem d_Y_input_27 : decode b_Y_input 27 = .ok (.iadd, 1) := by decide +kernel
theorem d_Y_input_28 : decode b_Y_input 28 = .ok (.putfield 63, 3) := by decide +kernel
theorem d_Y_input_31 : decode b_Y_input 31 = .ok (.aload_n 0, 1) := by decide +kernel
theorem d_Y_input_32 : decode b_Y_input 32 = .ok (.getfield 63, 3) := by decide +kernel
theorem d_Y_input_35 : decode b_Y_input 35 = .ok (.ireturn, 1) := by decide +kernel
theorem d_Y_request_0 : decode b_Y_request 0 = .ok (.aload_n 0, 1) := by decide +kernel
theorem d_Y_request_1 : decode b_Y_request 1 = .ok (.getfield 66, 3) := by decide +kernel
theorem d_Y_request_4 : decode b_Y_request 4 = .ok (.istore_n 1, 1) := by decide +kernel
theorem d_Y_request_5 : decode b_Y_request 5 = .ok (.aload_n 0, 1) := by decide +kernel
theorem d_Y_request_6 : decode b_Y_request 6 = .ok (.iconst 1, 1) := by decide +kernel
theorem d_Y_request_7 : decode b_Y_request 7 = .ok (.putfield 66, 3) := by decide +kernel
theorem d_Y_request_10 : decode b_Y_request 10 = .ok (.iload_n 1, 1) := by decide +kernel
theorem d_Y_request_11 : decode b_Y_request 11 = .ok (.ifCond .ne 7, 3) := by decide +kernel
theorem d_Y_request_14 : decode b_Y_request 14 = .ok (.iconst 1, 1) := by decide +kernel
theorem d_Y_request_15 : decode b_Y_request 15 = .ok (.goto 4, 3) := by decide +kernel
theorem d_Y_request_18 : decode b_Y_request 18 = .ok (.iconst 0, 1) := by decide +kernel
theorem d_Y_request_19 : decode b_Y_request 19 = .ok (.ireturn, 1) := by decide +kernel
theorem d_Y_pass_0 : decode b_Y_pass 0 = .ok (.iload_n 1, 1) := by decide +kernel
theorem d_Y_pass_1 : decode b_Y_pass 1 = .ok (.iconst 1, 1) := by decide +kernel
theorem d_Y_pass_2 : decode b_Y_pass 2 = .ok (.ldc 78, 2) := by decide +kernel
theorem d_Y_pass_4 : decode b_Y_pass 4 = .ok (.invokestatic 45, 3) := by decide +kernel
theorem d_Y_pass_7 : decode b_Y_pass 7 = .ok (.ifCond .ne 5, 3) := by decide +kernel
theorem d_Y_pass_10 : decode b_Y_pass 10 = .ok (.iconst 0, 1) := by decide +kernel
theorem d_Y_pass_11 : decode b_Y_pass 11 = .ok (.ireturn, 1) := by decide +kernel
theorem d_Y_pass_12 : decode b_Y_pass 12 = .ok (.aload_n 0, 1) := by decide +kernel
theorem d_Y_pass_13 : decode b_Y_pass 13 = .ok (.aload_n 0, 1) := by decide +kernel
theorem d_Y_pass_14 : decode b_Y_pass 14 = .ok (.getfield 60, 3) := by decide +kernel
theorem d_Y_pass_17 : decode b_Y_pass 17 = .ok (.iload_n 1, 1) := by decide +kernel
theorem d_Y_pass_18 : decode b_Y_pass 18 = .ok (.iadd, 1) := by decide +kernel
theorem d_Y_pass_19 : decode b_Y_pass 19 = .ok (.putfield 60, 3) := by decide +kernel
theorem d_Y_pass_22 : decode b_Y_pass 22 = .ok (.iconst 1, 1) := by decide +kernel
theorem d_Y_pass_23 : decode b_Y_pass 23 = .ok (.ireturn, 1) := by decide +kernel
theorem d_Y_run_0 : decode b_Y_run 0 = .ok (.iload_n 1, 1) := by decide +kernel
theorem d_Y_run_1 : decode b_Y_run 1 = .ok (.iconst 1, 1) := by decide +kernel
theorem d_Y_run_2 : decode b_Y_run 2 = .ok (.bipush 100, 2) := by decide +kernel
theorem d_Y_run_4 : decode b_Y_run 4 = .ok (.invokestatic 45, 3) := by decide +kernel
theorem d_Y_run_7 : decode b_Y_run 7 = .ok (.ifCond .ne 5, 3) := by decide +kernel
theorem d_Y_run_10 : decode b_Y_run 10 = .ok (.iconst (-1), 1) := by decide +kernel
theorem d_Y_run_11 : decode b_Y_run 11 = .ok (.ireturn, 1) := by decide +kernel
theorem d_Y_run_12 : decode b_Y_run 12 = .ok (.aload_n 0, 1) := by decide +kernel
theorem d_Y_run_13 : decode b_Y_run 13 = .ok (.iconst 1, 1) := by decide +kernel
theorem d_Y_run_14 : decode b_Y_run 14 = .ok (.putfield 52, 3) := by decide +kernel
theorem d_Y_run_17 : decode b_Y_run 17 = .ok (.iconst 0, 1) := by decide +kernel
theorem d_Y_run_18 : decode b_Y_run 18 = .ok (.istore_n 2, 1) := by decide +kernel
theorem d_Y_run_19 : decode b_Y_run 19 = .ok (.iload_n 2, 1) := by decide +kernel
theorem d_Y_run_20 : decode b_Y_run 20 = .ok (.iload_n 1, 1) := by decide +kernel
theorem d_Y_run_21 : decode b_Y_run 21 = .ok (.if_icmp .ge 35, 3) := by decide +kernel
theorem d_Y_run_24 : decode b_Y_run 24 = .ok (.aload_n 0, 1) := by decide +kernel
theorem d_Y_run_25 : decode b_Y_run 25 = .ok (.getfield 69, 3) := by decide +kernel
theorem d_Y_run_28 : decode b_Y_run 28 = .ok (.sipush 290, 3) := by decide +kernel
theorem d_Y_run_31 : decode b_Y_run 31 = .ok (.if_icmp .gt 25, 3) := by decide +kernel
theorem d_Y_run_34 : decode b_Y_run 34 = .ok (.aload_n 0, 1) := by decide +kernel
theorem d_Y_run_35 : decode b_Y_run 35 = .ok (.getfield 19, 3) := by decide +kernel
theorem d_Y_run_38 : decode b_Y_run 38 = .ok (.bipush 8, 2) := by decide +kernel
theorem d_Y_run_40 : decode b_Y_run 40 = .ok (.iaload, 1) := by decide +kernel
theorem d_Y_run_41 : decode b_Y_run 41 = .ok (.ifCond .ne 15, 3) := by decide +kernel
theorem d_Y_run_44 : decode b_Y_run 44 = .ok (.aload_n 0, 1) := by decide +kernel
theorem d_Y_run_45 : decode b_Y_run 45 = .ok (.iconst 0, 1) := by decide +kernel
theorem d_Y_run_46 : decode b_Y_run 46 = .ok (.invokevirtual 131, 3) := by decide +kernel
theorem d_Y_run_49 : decode b_Y_run 49 = .ok (.iload_n 2, 1) := by decide +kernel
theorem d_Y_run_50 : decode b_Y_run 50 = .ok (.iconst 1, 1) := by decide +kernel
theorem d_Y_run_51 : decode b_Y_run 51 = .ok (.iadd, 1) := by decide +kernel
theorem d_Y_run_52 : decode b_Y_run 52 = .ok (.istore_n 2, 1) := by decide +kernel
theorem d_Y_run_53 : decode b_Y_run 53 = .ok (.goto (-34), 3) := by decide +kernel
theorem d_Y_run_56 : decode b_Y_run 56 = .ok (.iload_n 2, 1) := by decide +kernel
theorem d_Y_run_57 : decode b_Y_run 57 = .ok (.ireturn, 1) := by decide +kernel
theorem d_Y_step_0 : decode b_Y_step 0 = .ok (.aload_n 0, 1) := by decide +kernel
theorem d_Y_step_1 : decode b_Y_step 1 = .ok (.getfield 19, 3) := by decide +kernel
theorem d_Y_step_4 : decode b_Y_step 4 = .ok (.iload_n 1, 1) := by decide +kernel
theorem d_Y_step_5 : decode b_Y_step 5 = .ok (.bipush 9, 2) := by decide +kernel
theorem d_Y_step_7 : decode b_Y_step 7 = .ok (.iadd, 1) := by decide +kernel
theorem d_Y_step_8 : decode b_Y_step 8 = .ok (.aload_n 0, 1) := by decide +kernel
theorem d_Y_step_9 : decode b_Y_step 9 = .ok (.getfield 19, 3) := by decide +kernel
theorem d_Y_step_12 : decode b_Y_step 12 = .ok (.iload_n 1, 1) := by decide +kernel
theorem d_Y_step_13 : decode b_Y_step 13 = .ok (.bipush 9, 2) := by decide +kernel
theorem d_Y_step_15 : decode b_Y_step 15 = .ok (.iadd, 1) := by decide +kernel
theorem d_Y_step_16 : decode b_Y_step 16 = .ok (.iaload, 1) := by decide +kernel
theorem d_Y_step_17 : decode b_Y_step 17 = .ok (.iconst 1, 1) := by decide +kernel
theorem d_Y_step_18 : decode b_Y_step 18 = .ok (.iadd, 1) := by decide +kernel
theorem d_Y_step_19 : decode b_Y_step 19 = .ok (.iastore, 1) := by decide +kernel
theorem d_Y_step_20 : decode b_Y_step 20 = .ok (.aload_n 0, 1) := by decide +kernel
theorem d_Y_step_21 : decode b_Y_step 21 = .ok (.getfield 19, 3) := by decide +kernel
theorem d_Y_step_24 : decode b_Y_step 24 = .ok (.iload_n 1, 1) := by decide +kernel
theorem d_Y_step_25 : decode b_Y_step 25 = .ok (.iconst 4, 1) := by decide +kernel
theorem d_Y_step_26 : decode b_Y_step 26 = .ok (.iadd, 1) := by decide +kernel
theorem d_Y_step_27 : decode b_Y_step 27 = .ok (.iaload, 1) := by decide +kernel
theorem d_Y_step_28 : decode b_Y_step 28 = .ok (.istore_n 2, 1) := by decide +kernel
theorem d_Y_step_29 : decode b_Y_step 29 = .ok (.aload_n 0, 1) := by decide +kernel
theorem d_Y_step_30 : decode b_Y_step 30 = .ok (.iload_n 1, 1) := by decide +kernel
theorem d_Y_step_31 : decode b_Y_step 31 = .ok (.invokevirtual 119, 3) := by decide +kernel
theorem d_Y_step_34 : decode b_Y_step 34 = .ok (.ifCond .eq 36, 3) := by decide +kernel
theorem d_Y_step_37 : decode b_Y_step 37 = .ok (.aload_n 0, 1) := by decide +kernel
theorem d_Y_step_38 : decode b_Y_step 38 = .ok (.getfield 19, 3) := by decide +kernel
theorem d_Y_step_41 : decode b_Y_step 41 = .ok (.iload_n 1, 1) := by decide +kernel
theorem d_Y_step_42 : decode b_Y_step 42 = .ok (.bipush 10, 2) := by decide +kernel
theorem d_Y_step_44 : decode b_Y_step 44 = .ok (.iadd, 1) := by decide +kernel
theorem d_Y_step_45 : decode b_Y_step 45 = .ok (.iload_n 2, 1) := by decide +kernel
theorem d_Y_step_46 : decode b_Y_step 46 = .ok (.iastore, 1) := by decide +kernel
theorem d_Y_step_47 : decode b_Y_step 47 = .ok (.aload_n 0, 1) := by decide +kernel
theorem d_Y_step_48 : decode b_Y_step 48 = .ok (.getfield 19, 3) := by decide +kernel
theorem d_Y_step_51 : decode b_Y_step 51 = .ok (.iload_n 1, 1) := by decide +kernel
theorem d_Y_step_52 : decode b_Y_step 52 = .ok (.iconst 4, 1) := by decide +kernel
theorem d_Y_step_53 : decode b_Y_step 53 = .ok (.iadd, 1) := by decide +kernel
theorem d_Y_step_54 : decode b_Y_step 54 = .ok (.bipush 16, 2) := by decide +kernel
theorem d_Y_step_56 : decode b_Y_step 56 = .ok (.iastore, 1) := by decide +kernel
theorem d_Y_step_57 : decode b_Y_step 57 = .ok (.aload_n 0, 1) := by decide +kernel
theorem d_Y_step_58 : decode b_Y_step 58 = .ok (.getfield 19, 3) := by decide +kernel
theorem d_Y_step_61 : decode b_Y_step 61 = .ok (.iload_n 1, 1) := by decide +kernel
theorem d_Y_step_62 : decode b_Y_step 62 = .ok (.bipush 7, 2) := by decide +kernel
theorem d_Y_step_64 : decode b_Y_step 64 = .ok (.iadd, 1) := by decide +kernel
theorem d_Y_step_65 : decode b_Y_step 65 = .ok (.iconst 1, 1) := by decide +kernel
theorem d_Y_step_66 : decode b_Y_step 66 = .ok (.iastore, 1) := by decide +kernel
theorem d_Y_step_67 : decode b_Y_step 67 = .ok (.goto 47, 3) := by decide +kernel
theorem d_Y_step_70 : decode b_Y_step 70 = .ok (.iload_n 2, 1) := by decide +kernel
theorem d_Y_step_71 : decode b_Y_step 71 = .ok (.aload_n 0, 1) := by decide +kernel
theorem d_Y_step_72 : decode b_Y_step 72 = .ok (.getfield 49, 3) := by decide +kernel
theorem d_Y_step_75 : decode b_Y_step 75 = .ok (.if_icmp .lt 16, 3) := by decide +kernel
theorem d_Y_step_78 : decode b_Y_step 78 = .ok (.aload_n 0, 1) := by decide +kernel
theorem d_Y_step_79 : decode b_Y_step 79 = .ok (.getfield 19, 3) := by decide +kernel
theorem d_Y_step_82 : decode b_Y_step 82 = .ok (.iload_n 1, 1) := by decide +kernel
theorem d_Y_step_83 : decode b_Y_step 83 = .ok (.bipush 8, 2) := by decide +kernel
theorem d_Y_step_85 : decode b_Y_step 85 = .ok (.iadd, 1) := by decide +kernel
theorem d_Y_step_86 : decode b_Y_step 86 = .ok (.iconst 1, 1) := by decide +kernel
theorem d_Y_step_87 : decode b_Y_step 87 = .ok (.iastore, 1) := by decide +kernel
theorem d_Y_step_88 : decode b_Y_step 88 = .ok (.goto 26, 3) := by decide +kernel
theorem d_Y_step_91 : decode b_Y_step 91 = .ok (.aload_n 0, 1) := by decide +kernel
theorem d_Y_step_92 : decode b_Y_step 92 = .ok (.iload_n 1, 1) := by decide +kernel
theorem d_Y_step_93 : decode b_Y_step 93 = .ok (.aload_n 0, 1) := by decide +kernel
theorem d_Y_step_94 : decode b_Y_step 94 = .ok (.getfield 7, 3) := by decide +kernel
theorem d_Y_step_97 : decode b_Y_step 97 = .ok (.iload_n 2, 1) := by decide +kernel
theorem d_Y_step_98 : decode b_Y_step 98 = .ok (.iaload, 1) := by decide +kernel
theorem d_Y_step_99 : decode b_Y_step 99 = .ok (.aload_n 0, 1) := by decide +kernel
theorem d_Y_step_100 : decode b_Y_step 100 = .ok (.getfield 13, 3) := by decide +kernel
theorem d_Y_step_103 : decode b_Y_step 103 = .ok (.iload_n 2, 1) := by decide +kernel
theorem d_Y_step_104 : decode b_Y_step 104 = .ok (.iaload, 1) := by decide +kernel
theorem d_Y_step_105 : decode b_Y_step 105 = .ok (.aload_n 0, 1) := by decide +kernel
theorem d_Y_step_106 : decode b_Y_step 106 = .ok (.getfield 16, 3) := by decide +kernel
theorem d_Y_step_109 : decode b_Y_step 109 = .ok (.iload_n 2, 1) := by decide +kernel
theorem d_Y_step_110 : decode b_Y_step 110 = .ok (.iaload, 1) := by decide +kernel
theorem d_Y_step_111 : decode b_Y_step 111 = .ok (.invokevirtual 123, 3) := by decide +kernel
theorem d_Y_step_114 : decode b_Y_step 114 = .ok (.aload_n 0, 1) := by decide +kernel
theorem d_Y_step_115 : decode b_Y_step 115 = .ok (.iload_n 1, 1) := by decide +kernel
theorem d_Y_step_116 : decode b_Y_step 116 = .ok (.aload_n 0, 1) := by decide +kernel
theorem d_Y_step_117 : decode b_Y_step 117 = .ok (.getfield 19, 3) := by decide +kernel
theorem d_Y_step_120 : decode b_Y_step 120 = .ok (.iload_n 1, 1) := by decide +kernel
theorem d_Y_step_121 : decode b_Y_step 121 = .ok (.iconst 4, 1) := by decide +kernel
theorem d_Y_step_122 : decode b_Y_step 122 = .ok (.iadd, 1) := by decide +kernel
theorem d_Y_step_123 : decode b_Y_step 123 = .ok (.iaload, 1) := by decide +kernel
theorem d_Y_step_124 : decode b_Y_step 124 = .ok (.invokevirtual 127, 3) := by decide +kernel
theorem d_Y_step_127 : decode b_Y_step 127 = .ok (.iconst 0, 1) := by decide +kernel
theorem d_Y_step_128 : decode b_Y_step 128 = .ok (.istore_n 3, 1) := by decide +kernel
theorem d_Y_step_129 : decode b_Y_step 129 = .ok (.iload_n 3, 1) := by decide +kernel
theorem d_Y_step_130 : decode b_Y_step 130 = .ok (.iconst 4, 1) := by decide +kernel
theorem d_Y_step_131 : decode b_Y_step 131 = .ok (.if_icmp .ge 22, 3) := by decide +kernel
theorem d_Y_step_134 : decode b_Y_step 134 = .ok (.aload_n 0, 1) := by decide +kernel
theorem d_Y_step_135 : decode b_Y_step 135 = .ok (.iload_n 1, 1) := by decide +kernel
theorem d_Y_step_136 : decode b_Y_step 136 = .ok (.aload_n 0, 1) := by decide +kernel
theorem d_Y_step_137 : decode b_Y_step 137 = .ok (.getfield 19, 3) := by decide +kernel
theorem d_Y_step_140 : decode b_Y_step 140 = .ok (.iload_n 1, 1) := by decide +kernel
theorem d_Y_step_141 : decode b_Y_step 141 = .ok (.iload_n 3, 1) := by decide +kernel
theorem d_Y_step_142 : decode b_Y_step 142 = .ok (.iadd, 1) := by decide +kernel
theorem d_Y_step_143 : decode b_Y_step 143 = .ok (.iaload, 1) := by decide +kernel
theorem d_Y_step_144 : decode b_Y_step 144 = .ok (.invokevirtual 127, 3) := by decide +kernel
theorem d_Y_step_147 : decode b_Y_step 147 = .ok (.iinc 3 1, 3) := by decide +kernel
theorem d_Y_step_150 : decode b_Y_step 150 = .ok (.goto (-21), 3) := by decide +kernel
theorem d_Y_step_153 : decode b_Y_step 153 = .ok (.aload_n 0, 1) := by decide +kernel
theorem d_Y_step_154 : decode b_Y_step 154 = .ok (.iload_n 1, 1) := by decide +kernel
theorem d_Y_step_155 : decode b_Y_step 155 = .ok (.aload_n 0, 1) := by decide +kernel
theorem d_Y_step_156 : decode b_Y_step 156 = .ok (.getfield 19, 3) := by decide +kernel
theorem d_Y_step_159 : decode b_Y_step 159 = .ok (.iload_n 1, 1) := by decide +kernel
theorem d_Y_step_160 : decode b_Y_step 160 = .ok (.iconst 5, 1) := by decide +kernel
theorem d_Y_step_161 : decode b_Y_step 161 = .ok (.iadd, 1) := by decide +kernel
theorem d_Y_step_162 : decode b_Y_step 162 = .ok (.iaload, 1) := by decide +kernel
theorem d_Y_step_163 : decode b_Y_step 163 = .ok (.invokevirtual 127, 3) := by decide +kernel
theorem d_Y_step_166 : decode b_Y_step 166 = .ok (.return_, 1) := by decide +kernel
