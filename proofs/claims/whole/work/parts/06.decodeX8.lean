theorem dX8_init_0 : decode cX8_init 0 = .ok (.aload_n 0, 1) := by decide +kernel
theorem dX8_init_1 : decode cX8_init 1 = .ok (.invokespecial 1, 3) := by decide +kernel
theorem dX8_init_4 : decode cX8_init 4 = .ok (.aload_n 0, 1) := by decide +kernel
theorem dX8_init_5 : decode cX8_init 5 = .ok (.bipush 120, 2) := by decide +kernel
theorem dX8_init_7 : decode cX8_init 7 = .ok (.newarray .int, 2) := by decide +kernel
theorem dX8_init_9 : decode cX8_init 9 = .ok (.putfield 7, 3) := by decide +kernel
theorem dX8_init_12 : decode cX8_init 12 = .ok (.aload_n 0, 1) := by decide +kernel
theorem dX8_init_13 : decode cX8_init 13 = .ok (.bipush 42, 2) := by decide +kernel
theorem dX8_init_15 : decode cX8_init 15 = .ok (.newarray .int, 2) := by decide +kernel
theorem dX8_init_17 : decode cX8_init 17 = .ok (.putfield 13, 3) := by decide +kernel
theorem dX8_init_20 : decode cX8_init 20 = .ok (.aload_n 0, 1) := by decide +kernel
theorem dX8_init_21 : decode cX8_init 21 = .ok (.bipush 42, 2) := by decide +kernel
theorem dX8_init_23 : decode cX8_init 23 = .ok (.newarray .int, 2) := by decide +kernel
theorem dX8_init_25 : decode cX8_init 25 = .ok (.putfield 16, 3) := by decide +kernel
theorem dX8_init_28 : decode cX8_init 28 = .ok (.aload_n 0, 1) := by decide +kernel
theorem dX8_init_29 : decode cX8_init 29 = .ok (.bipush 42, 2) := by decide +kernel
theorem dX8_init_31 : decode cX8_init 31 = .ok (.newarray .int, 2) := by decide +kernel
theorem dX8_init_33 : decode cX8_init 33 = .ok (.putfield 19, 3) := by decide +kernel
theorem dX8_init_36 : decode cX8_init 36 = .ok (.aload_n 0, 1) := by decide +kernel
theorem dX8_init_37 : decode cX8_init 37 = .ok (.sipush 588, 3) := by decide +kernel
theorem dX8_init_40 : decode cX8_init 40 = .ok (.newarray .int, 2) := by decide +kernel
theorem dX8_init_42 : decode cX8_init 42 = .ok (.putfield 22, 3) := by decide +kernel
theorem dX8_init_45 : decode cX8_init 45 = .ok (.aload_n 0, 1) := by decide +kernel
theorem dX8_init_46 : decode cX8_init 46 = .ok (.bipush 84, 2) := by decide +kernel
theorem dX8_init_48 : decode cX8_init 48 = .ok (.newarray .int, 2) := by decide +kernel
theorem dX8_init_50 : decode cX8_init 50 = .ok (.putfield 25, 3) := by decide +kernel
theorem dX8_init_53 : decode cX8_init 53 = .ok (.aload_n 0, 1) := by decide +kernel
theorem dX8_init_54 : decode cX8_init 54 = .ok (.iconst 2, 1) := by decide +kernel
theorem dX8_init_55 : decode cX8_init 55 = .ok (.newarray .boolean, 2) := by decide +kernel
theorem dX8_init_57 : decode cX8_init 57 = .ok (.putfield 28, 3) := by decide +kernel
theorem dX8_init_60 : decode cX8_init 60 = .ok (.aload_n 0, 1) := by decide +kernel
theorem dX8_init_61 : decode cX8_init 61 = .ok (.getfield 13, 3) := by decide +kernel
theorem dX8_init_64 : decode cX8_init 64 = .ok (.invokestatic 32, 3) := by decide +kernel
theorem dX8_init_67 : decode cX8_init 67 = .ok (.return_, 1) := by decide +kernel
theorem dX8_thrown_0 : decode cX8_thrown 0 = .ok (.aload_n 0, 1) := by decide +kernel
theorem dX8_thrown_1 : decode cX8_thrown 1 = .ok (.getfield 36, 3) := by decide +kernel
theorem dX8_thrown_4 : decode cX8_thrown 4 = .ok (.ireturn, 1) := by decide +kernel
theorem dX8_refused_0 : decode cX8_refused 0 = .ok (.aload_n 0, 1) := by decide +kernel
theorem dX8_refused_1 : decode cX8_refused 1 = .ok (.iload_n 1, 1) := by decide +kernel
theorem dX8_refused_2 : decode cX8_refused 2 = .ok (.putfield 36, 3) := by decide +kernel
theorem dX8_refused_5 : decode cX8_refused 5 = .ok (.iload_n 1, 1) := by decide +kernel
theorem dX8_refused_6 : decode cX8_refused 6 = .ok (.ifCond .le 7, 3) := by decide +kernel
theorem dX8_refused_9 : decode cX8_refused 9 = .ok (.iconst 1, 1) := by decide +kernel
theorem dX8_refused_10 : decode cX8_refused 10 = .ok (.goto 4, 3) := by decide +kernel
theorem dX8_refused_13 : decode cX8_refused 13 = .ok (.iconst 0, 1) := by decide +kernel
theorem dX8_refused_14 : decode cX8_refused 14 = .ok (.ireturn, 1) := by decide +kernel
theorem dX8_in_0 : decode cX8_in 0 = .ok (.lload_n 0, 1) := by decide +kernel
theorem dX8_in_1 : decode cX8_in 1 = .ok (.lload_n 2, 1) := by decide +kernel
theorem dX8_in_2 : decode cX8_in 2 = .ok (.lcmp, 1) := by decide +kernel
theorem dX8_in_3 : decode cX8_in 3 = .ok (.ifCond .lt 14, 3) := by decide +kernel
theorem dX8_in_6 : decode cX8_in 6 = .ok (.lload_n 0, 1) := by decide +kernel
theorem dX8_in_7 : decode cX8_in 7 = .ok (.lload 4, 2) := by decide +kernel
theorem dX8_in_9 : decode cX8_in 9 = .ok (.lcmp, 1) := by decide +kernel
theorem dX8_in_10 : decode cX8_in 10 = .ok (.ifCond .gt 7, 3) := by decide +kernel
theorem dX8_in_13 : decode cX8_in 13 = .ok (.iconst 1, 1) := by decide +kernel
theorem dX8_in_14 : decode cX8_in 14 = .ok (.goto 4, 3) := by decide +kernel
theorem dX8_in_17 : decode cX8_in 17 = .ok (.iconst 0, 1) := by decide +kernel
theorem dX8_in_18 : decode cX8_in 18 = .ok (.ireturn, 1) := by decide +kernel
theorem dX8_copyState_0 : decode cX8_copyState 0 = .ok (.iconst 0, 1) := by decide +kernel
theorem dX8_copyState_1 : decode cX8_copyState 1 = .ok (.istore 4, 2) := by decide +kernel
theorem dX8_copyState_3 : decode cX8_copyState 3 = .ok (.iload 4, 2) := by decide +kernel
theorem dX8_copyState_5 : decode cX8_copyState 5 = .ok (.bipush 42, 2) := by decide +kernel
theorem dX8_copyState_7 : decode cX8_copyState 7 = .ok (.if_icmp .ge 21, 3) := by decide +kernel
theorem dX8_copyState_10 : decode cX8_copyState 10 = .ok (.aload_n 2, 1) := by decide +kernel
theorem dX8_copyState_11 : decode cX8_copyState 11 = .ok (.iload_n 3, 1) := by decide +kernel
theorem dX8_copyState_12 : decode cX8_copyState 12 = .ok (.iload 4, 2) := by decide +kernel
theorem dX8_copyState_14 : decode cX8_copyState 14 = .ok (.iadd, 1) := by decide +kernel
theorem dX8_copyState_15 : decode cX8_copyState 15 = .ok (.aload_n 0, 1) := by decide +kernel
theorem dX8_copyState_16 : decode cX8_copyState 16 = .ok (.iload_n 1, 1) := by decide +kernel
theorem dX8_copyState_17 : decode cX8_copyState 17 = .ok (.iload 4, 2) := by decide +kernel
theorem dX8_copyState_19 : decode cX8_copyState 19 = .ok (.iadd, 1) := by decide +kernel
theorem dX8_copyState_20 : decode cX8_copyState 20 = .ok (.iaload, 1) := by decide +kernel
theorem dX8_copyState_21 : decode cX8_copyState 21 = .ok (.iastore, 1) := by decide +kernel
theorem dX8_copyState_22 : decode cX8_copyState 22 = .ok (.iinc 4 1, 3) := by decide +kernel
theorem dX8_copyState_25 : decode cX8_copyState 25 = .ok (.goto (-22), 3) := by decide +kernel
theorem dX8_copyState_28 : decode cX8_copyState 28 = .ok (.return_, 1) := by decide +kernel
theorem dX8_clear_0 : decode cX8_clear 0 = .ok (.iconst 0, 1) := by decide +kernel
theorem dX8_clear_1 : decode cX8_clear 1 = .ok (.istore_n 1, 1) := by decide +kernel
theorem dX8_clear_2 : decode cX8_clear 2 = .ok (.iload_n 1, 1) := by decide +kernel
theorem dX8_clear_3 : decode cX8_clear 3 = .ok (.bipush 42, 2) := by decide +kernel
theorem dX8_clear_5 : decode cX8_clear 5 = .ok (.if_icmp .ge 13, 3) := by decide +kernel
theorem dX8_clear_8 : decode cX8_clear 8 = .ok (.aload_n 0, 1) := by decide +kernel
theorem dX8_clear_9 : decode cX8_clear 9 = .ok (.iload_n 1, 1) := by decide +kernel
theorem dX8_clear_10 : decode cX8_clear 10 = .ok (.iconst 0, 1) := by decide +kernel
theorem dX8_clear_11 : decode cX8_clear 11 = .ok (.iastore, 1) := by decide +kernel
theorem dX8_clear_12 : decode cX8_clear 12 = .ok (.iinc 1 1, 3) := by decide +kernel
theorem dX8_clear_15 : decode cX8_clear 15 = .ok (.goto (-13), 3) := by decide +kernel
theorem dX8_clear_18 : decode cX8_clear 18 = .ok (.aload_n 0, 1) := by decide +kernel
theorem dX8_clear_19 : decode cX8_clear 19 = .ok (.bipush 7, 2) := by decide +kernel
theorem dX8_clear_21 : decode cX8_clear 21 = .ok (.bipush 6, 2) := by decide +kernel
theorem dX8_clear_23 : decode cX8_clear 23 = .ok (.iastore, 1) := by decide +kernel
theorem dX8_clear_24 : decode cX8_clear 24 = .ok (.aload_n 0, 1) := by decide +kernel
theorem dX8_clear_25 : decode cX8_clear 25 = .ok (.bipush 8, 2) := by decide +kernel
theorem dX8_clear_27 : decode cX8_clear 27 = .ok (.iconst 3, 1) := by decide +kernel
theorem dX8_clear_28 : decode cX8_clear 28 = .ok (.iastore, 1) := by decide +kernel
theorem dX8_clear_29 : decode cX8_clear 29 = .ok (.aload_n 0, 1) := by decide +kernel
theorem dX8_clear_30 : decode cX8_clear 30 = .ok (.bipush 9, 2) := by decide +kernel
theorem dX8_clear_32 : decode cX8_clear 32 = .ok (.iconst 2, 1) := by decide +kernel
theorem dX8_clear_33 : decode cX8_clear 33 = .ok (.iastore, 1) := by decide +kernel
theorem dX8_clear_34 : decode cX8_clear 34 = .ok (.return_, 1) := by decide +kernel
theorem dX8_of_0 : decode cX8_of 0 = .ok (.aload_n 0, 1) := by decide +kernel
theorem dX8_of_1 : decode cX8_of 1 = .ok (.bipush 10, 2) := by decide +kernel
theorem dX8_of_3 : decode cX8_of 3 = .ok (.bipush 8, 2) := by decide +kernel
theorem dX8_of_5 : decode cX8_of 5 = .ok (.iload_n 1, 1) := by decide +kernel
theorem dX8_of_6 : decode cX8_of 6 = .ok (.imul, 1) := by decide +kernel
theorem dX8_of_7 : decode cX8_of 7 = .ok (.iadd, 1) := by decide +kernel
theorem dX8_of_8 : decode cX8_of 8 = .ok (.iload_n 2, 1) := by decide +kernel
theorem dX8_of_9 : decode cX8_of 9 = .ok (.iadd, 1) := by decide +kernel
theorem dX8_of_10 : decode cX8_of 10 = .ok (.iaload, 1) := by decide +kernel
theorem dX8_of_11 : decode cX8_of 11 = .ok (.ireturn, 1) := by decide +kernel
theorem dX8_lay_0 : decode cX8_lay 0 = .ok (.aload_n 0, 1) := by decide +kernel
theorem dX8_lay_1 : decode cX8_lay 1 = .ok (.bipush 10, 2) := by decide +kernel
theorem dX8_lay_3 : decode cX8_lay 3 = .ok (.bipush 8, 2) := by decide +kernel
theorem dX8_lay_5 : decode cX8_lay 5 = .ok (.iload_n 1, 1) := by decide +kernel
theorem dX8_lay_6 : decode cX8_lay 6 = .ok (.imul, 1) := by decide +kernel
theorem dX8_lay_7 : decode cX8_lay 7 = .ok (.iadd, 1) := by decide +kernel
theorem dX8_lay_8 : decode cX8_lay 8 = .ok (.iload_n 2, 1) := by decide +kernel
theorem dX8_lay_9 : decode cX8_lay 9 = .ok (.iadd, 1) := by decide +kernel
theorem dX8_lay_10 : decode cX8_lay 10 = .ok (.iload_n 3, 1) := by decide +kernel
theorem dX8_lay_11 : decode cX8_lay 11 = .ok (.iastore, 1) := by decide +kernel
theorem dX8_lay_12 : decode cX8_lay 12 = .ok (.return_, 1) := by decide +kernel
theorem dX8_isGuest_0 : decode cX8_isGuest 0 = .ok (.iload_n 1, 1) := by decide +kernel
theorem dX8_isGuest_1 : decode cX8_isGuest 1 = .ok (.i2l, 1) := by decide +kernel
theorem dX8_isGuest_2 : decode cX8_isGuest 2 = .ok (.lconst 0, 1) := by decide +kernel
theorem dX8_isGuest_3 : decode cX8_isGuest 3 = .ok (.aload_n 0, 1) := by decide +kernel
theorem dX8_isGuest_4 : decode cX8_isGuest 4 = .ok (.iconst 0, 1) := by decide +kernel
theorem dX8_isGuest_5 : decode cX8_isGuest 5 = .ok (.iaload, 1) := by decide +kernel
theorem dX8_isGuest_6 : decode cX8_isGuest 6 = .ok (.iconst 1, 1) := by decide +kernel
theorem dX8_isGuest_7 : decode cX8_isGuest 7 = .ok (.isub, 1) := by decide +kernel
theorem dX8_isGuest_8 : decode cX8_isGuest 8 = .ok (.i2l, 1) := by decide +kernel
theorem dX8_isGuest_9 : decode cX8_isGuest 9 = .ok (.invokestatic 40, 3) := by decide +kernel
theorem dX8_isGuest_12 : decode cX8_isGuest 12 = .ok (.ireturn, 1) := by decide +kernel
theorem dX8_isFloor_0 : decode cX8_isFloor 0 = .ok (.iload_n 0, 1) := by decide +kernel
theorem dX8_isFloor_1 : decode cX8_isFloor 1 = .ok (.i2l, 1) := by decide +kernel
theorem dX8_isFloor_2 : decode cX8_isFloor 2 = .ok (.lconst 0, 1) := by decide +kernel
theorem dX8_isFloor_3 : decode cX8_isFloor 3 = .ok (.ldc2_w 44, 3) := by decide +kernel
theorem dX8_isFloor_6 : decode cX8_isFloor 6 = .ok (.invokestatic 40, 3) := by decide +kernel
theorem dX8_isFloor_9 : decode cX8_isFloor 9 = .ok (.ireturn, 1) := by decide +kernel
theorem dX8_isSetting_0 : decode cX8_isSetting 0 = .ok (.iload_n 0, 1) := by decide +kernel
theorem dX8_isSetting_1 : decode cX8_isSetting 1 = .ok (.ifCond .ne 17, 3) := by decide +kernel
theorem dX8_isSetting_4 : decode cX8_isSetting 4 = .ok (.iload_n 1, 1) := by decide +kernel
theorem dX8_isSetting_5 : decode cX8_isSetting 5 = .ok (.i2l, 1) := by decide +kernel
theorem dX8_isSetting_6 : decode cX8_isSetting 6 = .ok (.ldc2_w 46, 3) := by decide +kernel
theorem dX8_isSetting_9 : decode cX8_isSetting 9 = .ok (.ldc2_w 48, 3) := by decide +kernel
theorem dX8_isSetting_12 : decode cX8_isSetting 12 = .ok (.invokestatic 40, 3) := by decide +kernel
theorem dX8_isSetting_15 : decode cX8_isSetting 15 = .ok (.ifCond .ne 25, 3) := by decide +kernel
theorem dX8_isSetting_18 : decode cX8_isSetting 18 = .ok (.iload_n 0, 1) := by decide +kernel
theorem dX8_isSetting_19 : decode cX8_isSetting 19 = .ok (.iconst 1, 1) := by decide +kernel
theorem dX8_isSetting_20 : decode cX8_isSetting 20 = .ok (.if_icmp .eq 8, 3) := by decide +kernel
theorem dX8_isSetting_23 : decode cX8_isSetting 23 = .ok (.iload_n 0, 1) := by decide +kernel
theorem dX8_isSetting_24 : decode cX8_isSetting 24 = .ok (.iconst 2, 1) := by decide +kernel
theorem dX8_isSetting_25 : decode cX8_isSetting 25 = .ok (.if_icmp .ne 19, 3) := by decide +kernel
theorem dX8_isSetting_28 : decode cX8_isSetting 28 = .ok (.iload_n 1, 1) := by decide +kernel
theorem dX8_isSetting_29 : decode cX8_isSetting 29 = .ok (.i2l, 1) := by decide +kernel
theorem dX8_isSetting_30 : decode cX8_isSetting 30 = .ok (.lconst 1, 1) := by decide +kernel
theorem dX8_isSetting_31 : decode cX8_isSetting 31 = .ok (.ldc2_w 50, 3) := by decide +kernel
theorem dX8_isSetting_34 : decode cX8_isSetting 34 = .ok (.invokestatic 40, 3) := by decide +kernel
theorem dX8_isSetting_37 : decode cX8_isSetting 37 = .ok (.ifCond .eq 7, 3) := by decide +kernel
theorem dX8_isSetting_40 : decode cX8_isSetting 40 = .ok (.iconst 1, 1) := by decide +kernel
theorem dX8_isSetting_41 : decode cX8_isSetting 41 = .ok (.goto 4, 3) := by decide +kernel
theorem dX8_isSetting_44 : decode cX8_isSetting 44 = .ok (.iconst 0, 1) := by decide +kernel
theorem dX8_isSetting_45 : decode cX8_isSetting 45 = .ok (.ireturn, 1) := by decide +kernel
theorem dX8_inState_0 : decode cX8_inState 0 = .ok (.iconst 0, 1) := by decide +kernel
theorem dX8_inState_1 : decode cX8_inState 1 = .ok (.istore_n 2, 1) := by decide +kernel
theorem dX8_inState_2 : decode cX8_inState 2 = .ok (.iconst 0, 1) := by decide +kernel
theorem dX8_inState_3 : decode cX8_inState 3 = .ok (.istore_n 3, 1) := by decide +kernel
theorem dX8_inState_4 : decode cX8_inState 4 = .ok (.iload_n 3, 1) := by decide +kernel
theorem dX8_inState_5 : decode cX8_inState 5 = .ok (.aload_n 0, 1) := by decide +kernel
theorem dX8_inState_6 : decode cX8_inState 6 = .ok (.iconst 0, 1) := by decide +kernel
theorem dX8_inState_7 : decode cX8_inState 7 = .ok (.iaload, 1) := by decide +kernel
theorem dX8_inState_8 : decode cX8_inState 8 = .ok (.if_icmp .ge 27, 3) := by decide +kernel
theorem dX8_inState_11 : decode cX8_inState 11 = .ok (.iload_n 2, 1) := by decide +kernel
theorem dX8_inState_12 : decode cX8_inState 12 = .ok (.aload_n 0, 1) := by decide +kernel
theorem dX8_inState_13 : decode cX8_inState 13 = .ok (.iload_n 3, 1) := by decide +kernel
theorem dX8_inState_14 : decode cX8_inState 14 = .ok (.iconst 3, 1) := by decide +kernel
theorem dX8_inState_15 : decode cX8_inState 15 = .ok (.invokestatic 52, 3) := by decide +kernel
theorem dX8_inState_18 : decode cX8_inState 18 = .ok (.iload_n 1, 1) := by decide +kernel
theorem dX8_inState_19 : decode cX8_inState 19 = .ok (.if_icmp .ne 7, 3) := by decide +kernel
theorem dX8_inState_22 : decode cX8_inState 22 = .ok (.iconst 1, 1) := by decide +kernel
theorem dX8_inState_23 : decode cX8_inState 23 = .ok (.goto 4, 3) := by decide +kernel
theorem dX8_inState_26 : decode cX8_inState 26 = .ok (.iconst 0, 1) := by decide +kernel
theorem dX8_inState_27 : decode cX8_inState 27 = .ok (.iadd, 1) := by decide +kernel
theorem dX8_inState_28 : decode cX8_inState 28 = .ok (.istore_n 2, 1) := by decide +kernel
theorem dX8_inState_29 : decode cX8_inState 29 = .ok (.iinc 3 1, 3) := by decide +kernel
theorem dX8_inState_32 : decode cX8_inState 32 = .ok (.goto (-28), 3) := by decide +kernel
theorem dX8_inState_35 : decode cX8_inState 35 = .ok (.iload_n 2, 1) := by decide +kernel
theorem dX8_inState_36 : decode cX8_inState 36 = .ok (.ireturn, 1) := by decide +kernel
theorem dX8_allGrudges_0 : decode cX8_allGrudges 0 = .ok (.iconst 0, 1) := by decide +kernel
theorem dX8_allGrudges_1 : decode cX8_allGrudges 1 = .ok (.istore_n 1, 1) := by decide +kernel
theorem dX8_allGrudges_2 : decode cX8_allGrudges 2 = .ok (.iconst 0, 1) := by decide +kernel
theorem dX8_allGrudges_3 : decode cX8_allGrudges 3 = .ok (.istore_n 2, 1) := by decide +kernel
theorem dX8_allGrudges_4 : decode cX8_allGrudges 4 = .ok (.iload_n 2, 1) := by decide +kernel
theorem dX8_allGrudges_5 : decode cX8_allGrudges 5 = .ok (.aload_n 0, 1) := by decide +kernel
theorem dX8_allGrudges_6 : decode cX8_allGrudges 6 = .ok (.iconst 0, 1) := by decide +kernel
theorem dX8_allGrudges_7 : decode cX8_allGrudges 7 = .ok (.iaload, 1) := by decide +kernel
theorem dX8_allGrudges_8 : decode cX8_allGrudges 8 = .ok (.if_icmp .ge 18, 3) := by decide +kernel
theorem dX8_allGrudges_11 : decode cX8_allGrudges 11 = .ok (.iload_n 1, 1) := by decide +kernel
theorem dX8_allGrudges_12 : decode cX8_allGrudges 12 = .ok (.aload_n 0, 1) := by decide +kernel
theorem dX8_allGrudges_13 : decode cX8_allGrudges 13 = .ok (.iload_n 2, 1) := by decide +kernel
theorem dX8_allGrudges_14 : decode cX8_allGrudges 14 = .ok (.iconst 5, 1) := by decide +kernel
theorem dX8_allGrudges_15 : decode cX8_allGrudges 15 = .ok (.invokestatic 52, 3) := by decide +kernel
theorem dX8_allGrudges_18 : decode cX8_allGrudges 18 = .ok (.iadd, 1) := by decide +kernel
theorem dX8_allGrudges_19 : decode cX8_allGrudges 19 = .ok (.istore_n 1, 1) := by decide +kernel
theorem dX8_allGrudges_20 : decode cX8_allGrudges 20 = .ok (.iinc 2 1, 3) := by decide +kernel
theorem dX8_allGrudges_23 : decode cX8_allGrudges 23 = .ok (.goto (-19), 3) := by decide +kernel
theorem dX8_allGrudges_26 : decode cX8_allGrudges 26 = .ok (.iload_n 1, 1) := by decide +kernel
theorem dX8_allGrudges_27 : decode cX8_allGrudges 27 = .ok (.ireturn, 1) := by decide +kernel
theorem dX8_load1_0 : decode cX8_load1 0 = .ok (.iconst 0, 1) := by decide +kernel
theorem dX8_load1_1 : decode cX8_load1 1 = .ok (.istore_n 1, 1) := by decide +kernel
theorem dX8_load1_2 : decode cX8_load1 2 = .ok (.iconst 0, 1) := by decide +kernel
theorem dX8_load1_3 : decode cX8_load1 3 = .ok (.istore_n 2, 1) := by decide +kernel
theorem dX8_load1_4 : decode cX8_load1 4 = .ok (.iload_n 2, 1) := by decide +kernel
theorem dX8_load1_5 : decode cX8_load1 5 = .ok (.aload_n 0, 1) := by decide +kernel
theorem dX8_load1_6 : decode cX8_load1 6 = .ok (.iconst 0, 1) := by decide +kernel
theorem dX8_load1_7 : decode cX8_load1 7 = .ok (.iaload, 1) := by decide +kernel
theorem dX8_load1_8 : decode cX8_load1 8 = .ok (.if_icmp .ge 32, 3) := by decide +kernel
theorem dX8_load1_11 : decode cX8_load1 11 = .ok (.iload_n 1, 1) := by decide +kernel
theorem dX8_load1_12 : decode cX8_load1 12 = .ok (.aload_n 0, 1) := by decide +kernel
theorem dX8_load1_13 : decode cX8_load1 13 = .ok (.iload_n 2, 1) := by decide +kernel
theorem dX8_load1_14 : decode cX8_load1 14 = .ok (.iconst 3, 1) := by decide +kernel
theorem dX8_load1_15 : decode cX8_load1 15 = .ok (.invokestatic 52, 3) := by decide +kernel
theorem dX8_load1_18 : decode cX8_load1 18 = .ok (.iconst 1, 1) := by decide +kernel
theorem dX8_load1_19 : decode cX8_load1 19 = .ok (.if_icmp .ne 12, 3) := by decide +kernel
theorem dX8_load1_22 : decode cX8_load1 22 = .ok (.aload_n 0, 1) := by decide +kernel
theorem dX8_load1_23 : decode cX8_load1 23 = .ok (.iload_n 2, 1) := by decide +kernel
theorem dX8_load1_24 : decode cX8_load1 24 = .ok (.iconst 2, 1) := by decide +kernel
theorem dX8_load1_25 : decode cX8_load1 25 = .ok (.invokestatic 52, 3) := by decide +kernel
theorem dX8_load1_28 : decode cX8_load1 28 = .ok (.goto 4, 3) := by decide +kernel
theorem dX8_load1_31 : decode cX8_load1 31 = .ok (.iconst 0, 1) := by decide +kernel
theorem dX8_load1_32 : decode cX8_load1 32 = .ok (.iadd, 1) := by decide +kernel
theorem dX8_load1_33 : decode cX8_load1 33 = .ok (.istore_n 1, 1) := by decide +kernel
theorem dX8_load1_34 : decode cX8_load1 34 = .ok (.iinc 2 1, 3) := by decide +kernel
theorem dX8_load1_37 : decode cX8_load1 37 = .ok (.goto (-33), 3) := by decide +kernel
theorem dX8_load1_40 : decode cX8_load1 40 = .ok (.iload_n 1, 1) := by decide +kernel
theorem dX8_load1_41 : decode cX8_load1 41 = .ok (.ireturn, 1) := by decide +kernel
theorem dX8_reason_0 : decode cX8_reason 0 = .ok (.aload_n 0, 1) := by decide +kernel
theorem dX8_reason_1 : decode cX8_reason 1 = .ok (.iload_n 1, 1) := by decide +kernel
theorem dX8_reason_2 : decode cX8_reason 2 = .ok (.iconst 3, 1) := by decide +kernel
theorem dX8_reason_3 : decode cX8_reason 3 = .ok (.invokestatic 52, 3) := by decide +kernel
theorem dX8_reason_6 : decode cX8_reason 6 = .ok (.iconst 2, 1) := by decide +kernel
theorem dX8_reason_7 : decode cX8_reason 7 = .ok (.if_icmp .ne 7, 3) := by decide +kernel
theorem dX8_reason_10 : decode cX8_reason 10 = .ok (.iconst 1, 1) := by decide +kernel
theorem dX8_reason_11 : decode cX8_reason 11 = .ok (.goto 37, 3) := by decide +kernel
theorem dX8_reason_14 : decode cX8_reason 14 = .ok (.aload_n 0, 1) := by decide +kernel
theorem dX8_reason_15 : decode cX8_reason 15 = .ok (.iload_n 1, 1) := by decide +kernel
theorem dX8_reason_16 : decode cX8_reason 16 = .ok (.iconst 5, 1) := by decide +kernel
theorem dX8_reason_17 : decode cX8_reason 17 = .ok (.invokestatic 52, 3) := by decide +kernel
theorem dX8_reason_20 : decode cX8_reason 20 = .ok (.aload_n 0, 1) := by decide +kernel
theorem dX8_reason_21 : decode cX8_reason 21 = .ok (.bipush 8, 2) := by decide +kernel
theorem dX8_reason_23 : decode cX8_reason 23 = .ok (.iaload, 1) := by decide +kernel
theorem dX8_reason_24 : decode cX8_reason 24 = .ok (.if_icmp .lt 7, 3) := by decide +kernel
theorem dX8_reason_27 : decode cX8_reason 27 = .ok (.iconst 2, 1) := by decide +kernel
theorem dX8_reason_28 : decode cX8_reason 28 = .ok (.goto 20, 3) := by decide +kernel
theorem dX8_reason_31 : decode cX8_reason 31 = .ok (.aload_n 0, 1) := by decide +kernel
theorem dX8_reason_32 : decode cX8_reason 32 = .ok (.iload_n 1, 1) := by decide +kernel
theorem dX8_reason_33 : decode cX8_reason 33 = .ok (.iconst 0, 1) := by decide +kernel
theorem dX8_reason_34 : decode cX8_reason 34 = .ok (.invokestatic 52, 3) := by decide +kernel
theorem dX8_reason_37 : decode cX8_reason 37 = .ok (.aload_n 0, 1) := by decide +kernel
theorem dX8_reason_38 : decode cX8_reason 38 = .ok (.iconst 1, 1) := by decide +kernel
theorem dX8_reason_39 : decode cX8_reason 39 = .ok (.iaload, 1) := by decide +kernel
theorem dX8_reason_40 : decode cX8_reason 40 = .ok (.if_icmp .ne 7, 3) := by decide +kernel
theorem dX8_reason_43 : decode cX8_reason 43 = .ok (.iconst 3, 1) := by decide +kernel
theorem dX8_reason_44 : decode cX8_reason 44 = .ok (.goto 4, 3) := by decide +kernel
theorem dX8_reason_47 : decode cX8_reason 47 = .ok (.iconst 0, 1) := by decide +kernel
theorem dX8_reason_48 : decode cX8_reason 48 = .ok (.ireturn, 1) := by decide +kernel
theorem dX8_grudge_0 : decode cX8_grudge 0 = .ok (.aload_n 0, 1) := by decide +kernel
theorem dX8_grudge_1 : decode cX8_grudge 1 = .ok (.iload_n 1, 1) := by decide +kernel
theorem dX8_grudge_2 : decode cX8_grudge 2 = .ok (.iconst 5, 1) := by decide +kernel
theorem dX8_grudge_3 : decode cX8_grudge 3 = .ok (.aload_n 0, 1) := by decide +kernel
theorem dX8_grudge_4 : decode cX8_grudge 4 = .ok (.iload_n 1, 1) := by decide +kernel
theorem dX8_grudge_5 : decode cX8_grudge 5 = .ok (.iconst 5, 1) := by decide +kernel
theorem dX8_grudge_6 : decode cX8_grudge 6 = .ok (.invokestatic 52, 3) := by decide +kernel
theorem dX8_grudge_9 : decode cX8_grudge 9 = .ok (.bipush 9, 2) := by decide +kernel
theorem dX8_grudge_11 : decode cX8_grudge 11 = .ok (.if_icmp .ge 14, 3) := by decide +kernel
theorem dX8_grudge_14 : decode cX8_grudge 14 = .ok (.aload_n 0, 1) := by decide +kernel
theorem dX8_grudge_15 : decode cX8_grudge 15 = .ok (.iload_n 1, 1) := by decide +kernel
theorem dX8_grudge_16 : decode cX8_grudge 16 = .ok (.iconst 5, 1) := by decide +kernel
theorem dX8_grudge_17 : decode cX8_grudge 17 = .ok (.invokestatic 52, 3) := by decide +kernel
theorem dX8_grudge_20 : decode cX8_grudge 20 = .ok (.iconst 1, 1) := by decide +kernel
theorem dX8_grudge_21 : decode cX8_grudge 21 = .ok (.iadd, 1) := by decide +kernel
theorem dX8_grudge_22 : decode cX8_grudge 22 = .ok (.goto 5, 3) := by decide +kernel
theorem dX8_grudge_25 : decode cX8_grudge 25 = .ok (.bipush 9, 2) := by decide +kernel
theorem dX8_grudge_27 : decode cX8_grudge 27 = .ok (.invokestatic 56, 3) := by decide +kernel
theorem dX8_grudge_30 : decode cX8_grudge 30 = .ok (.return_, 1) := by decide +kernel
theorem dX8_passes_0 : decode cX8_passes 0 = .ok (.iconst 0, 1) := by decide +kernel
theorem dX8_passes_1 : decode cX8_passes 1 = .ok (.istore_n 2, 1) := by decide +kernel
theorem dX8_passes_2 : decode cX8_passes 2 = .ok (.iload_n 2, 1) := by decide +kernel
theorem dX8_passes_3 : decode cX8_passes 3 = .ok (.aload_n 0, 1) := by decide +kernel
theorem dX8_passes_4 : decode cX8_passes 4 = .ok (.iconst 0, 1) := by decide +kernel
theorem dX8_passes_5 : decode cX8_passes 5 = .ok (.iaload, 1) := by decide +kernel
theorem dX8_passes_6 : decode cX8_passes 6 = .ok (.if_icmp .ge 63, 3) := by decide +kernel
theorem dX8_passes_9 : decode cX8_passes 9 = .ok (.aload_n 0, 1) := by decide +kernel
theorem dX8_passes_10 : decode cX8_passes 10 = .ok (.iload_n 2, 1) := by decide +kernel
theorem dX8_passes_11 : decode cX8_passes 11 = .ok (.iconst 3, 1) := by decide +kernel
theorem dX8_passes_12 : decode cX8_passes 12 = .ok (.invokestatic 52, 3) := by decide +kernel
theorem dX8_passes_15 : decode cX8_passes 15 = .ok (.ifCond .ne 17, 3) := by decide +kernel
theorem dX8_passes_18 : decode cX8_passes 18 = .ok (.aload_n 0, 1) := by decide +kernel
theorem dX8_passes_19 : decode cX8_passes 19 = .ok (.iload_n 2, 1) := by decide +kernel
theorem dX8_passes_20 : decode cX8_passes 20 = .ok (.iconst 4, 1) := by decide +kernel
theorem dX8_passes_21 : decode cX8_passes 21 = .ok (.invokestatic 52, 3) := by decide +kernel
theorem dX8_passes_24 : decode cX8_passes 24 = .ok (.iload_n 1, 1) := by decide +kernel
theorem dX8_passes_25 : decode cX8_passes 25 = .ok (.if_icmp .ne 7, 3) := by decide +kernel
theorem dX8_passes_28 : decode cX8_passes 28 = .ok (.iconst 1, 1) := by decide +kernel
theorem dX8_passes_29 : decode cX8_passes 29 = .ok (.goto 4, 3) := by decide +kernel
theorem dX8_passes_32 : decode cX8_passes 32 = .ok (.iconst 0, 1) := by decide +kernel
theorem dX8_passes_33 : decode cX8_passes 33 = .ok (.istore_n 3, 1) := by decide +kernel
theorem dX8_passes_34 : decode cX8_passes 34 = .ok (.iload_n 3, 1) := by decide +kernel
theorem dX8_passes_35 : decode cX8_passes 35 = .ok (.ifCond .ne 23, 3) := by decide +kernel
theorem dX8_passes_38 : decode cX8_passes 38 = .ok (.aload_n 0, 1) := by decide +kernel
theorem dX8_passes_39 : decode cX8_passes 39 = .ok (.iload_n 2, 1) := by decide +kernel
theorem dX8_passes_40 : decode cX8_passes 40 = .ok (.iconst 3, 1) := by decide +kernel
theorem dX8_passes_41 : decode cX8_passes 41 = .ok (.invokestatic 52, 3) := by decide +kernel
theorem dX8_passes_44 : decode cX8_passes 44 = .ok (.iconst 1, 1) := by decide +kernel
theorem dX8_passes_45 : decode cX8_passes 45 = .ok (.if_icmp .ne 18, 3) := by decide +kernel
theorem dX8_passes_48 : decode cX8_passes 48 = .ok (.aload_n 0, 1) := by decide +kernel
theorem dX8_passes_49 : decode cX8_passes 49 = .ok (.iload_n 2, 1) := by decide +kernel
theorem dX8_passes_50 : decode cX8_passes 50 = .ok (.iconst 1, 1) := by decide +kernel
theorem dX8_passes_51 : decode cX8_passes 51 = .ok (.invokestatic 52, 3) := by decide +kernel
theorem dX8_passes_54 : decode cX8_passes 54 = .ok (.iload_n 1, 1) := by decide +kernel
theorem dX8_passes_55 : decode cX8_passes 55 = .ok (.if_icmp .ne 8, 3) := by decide +kernel
theorem dX8_passes_58 : decode cX8_passes 58 = .ok (.aload_n 0, 1) := by decide +kernel
theorem dX8_passes_59 : decode cX8_passes 59 = .ok (.iload_n 2, 1) := by decide +kernel
theorem dX8_passes_60 : decode cX8_passes 60 = .ok (.invokestatic 60, 3) := by decide +kernel
theorem dX8_passes_63 : decode cX8_passes 63 = .ok (.iinc 2 1, 3) := by decide +kernel
theorem dX8_passes_66 : decode cX8_passes 66 = .ok (.goto (-64), 3) := by decide +kernel
theorem dX8_passes_69 : decode cX8_passes 69 = .ok (.return_, 1) := by decide +kernel
theorem dX8_stops_0 : decode cX8_stops 0 = .ok (.iconst 0, 1) := by decide +kernel
theorem dX8_stops_1 : decode cX8_stops 1 = .ok (.istore_n 1, 1) := by decide +kernel
theorem dX8_stops_2 : decode cX8_stops 2 = .ok (.iload_n 1, 1) := by decide +kernel
theorem dX8_stops_3 : decode cX8_stops 3 = .ok (.aload_n 0, 1) := by decide +kernel
theorem dX8_stops_4 : decode cX8_stops 4 = .ok (.iconst 0, 1) := by decide +kernel
theorem dX8_stops_5 : decode cX8_stops 5 = .ok (.iaload, 1) := by decide +kernel
theorem dX8_stops_6 : decode cX8_stops 6 = .ok (.if_icmp .ge 53, 3) := by decide +kernel
theorem dX8_stops_9 : decode cX8_stops 9 = .ok (.aload_n 0, 1) := by decide +kernel
theorem dX8_stops_10 : decode cX8_stops 10 = .ok (.iload_n 1, 1) := by decide +kernel
theorem dX8_stops_11 : decode cX8_stops 11 = .ok (.iconst 3, 1) := by decide +kernel
theorem dX8_stops_12 : decode cX8_stops 12 = .ok (.invokestatic 52, 3) := by decide +kernel
theorem dX8_stops_15 : decode cX8_stops 15 = .ok (.iconst 1, 1) := by decide +kernel
theorem dX8_stops_16 : decode cX8_stops 16 = .ok (.if_icmp .ne 37, 3) := by decide +kernel
theorem dX8_stops_19 : decode cX8_stops 19 = .ok (.aload_n 0, 1) := by decide +kernel
theorem dX8_stops_20 : decode cX8_stops 20 = .ok (.iload_n 1, 1) := by decide +kernel
theorem dX8_stops_21 : decode cX8_stops 21 = .ok (.iconst 1, 1) := by decide +kernel
theorem dX8_stops_22 : decode cX8_stops 22 = .ok (.invokestatic 52, 3) := by decide +kernel
theorem dX8_stops_25 : decode cX8_stops 25 = .ok (.aload_n 0, 1) := by decide +kernel
theorem dX8_stops_26 : decode cX8_stops 26 = .ok (.iconst 1, 1) := by decide +kernel
theorem dX8_stops_27 : decode cX8_stops 27 = .ok (.iaload, 1) := by decide +kernel
theorem dX8_stops_28 : decode cX8_stops 28 = .ok (.if_icmp .ne 25, 3) := by decide +kernel
theorem dX8_stops_31 : decode cX8_stops 31 = .ok (.aload_n 0, 1) := by decide +kernel
theorem dX8_stops_32 : decode cX8_stops 32 = .ok (.iload_n 1, 1) := by decide +kernel
theorem dX8_stops_33 : decode cX8_stops 33 = .ok (.iconst 3, 1) := by decide +kernel
theorem dX8_stops_34 : decode cX8_stops 34 = .ok (.iconst 2, 1) := by decide +kernel
theorem dX8_stops_35 : decode cX8_stops 35 = .ok (.invokestatic 56, 3) := by decide +kernel
theorem dX8_stops_38 : decode cX8_stops 38 = .ok (.aload_n 0, 1) := by decide +kernel
theorem dX8_stops_39 : decode cX8_stops 39 = .ok (.iload_n 1, 1) := by decide +kernel
theorem dX8_stops_40 : decode cX8_stops 40 = .ok (.iconst 5, 1) := by decide +kernel
theorem dX8_stops_41 : decode cX8_stops 41 = .ok (.iconst 0, 1) := by decide +kernel
theorem dX8_stops_42 : decode cX8_stops 42 = .ok (.invokestatic 56, 3) := by decide +kernel
theorem dX8_stops_45 : decode cX8_stops 45 = .ok (.aload_n 0, 1) := by decide +kernel
theorem dX8_stops_46 : decode cX8_stops 46 = .ok (.bipush 6, 2) := by decide +kernel
theorem dX8_stops_48 : decode cX8_stops 48 = .ok (.dup2, 1) := by decide +kernel
theorem dX8_stops_49 : decode cX8_stops 49 = .ok (.iaload, 1) := by decide +kernel
theorem dX8_stops_50 : decode cX8_stops 50 = .ok (.iconst 1, 1) := by decide +kernel
theorem dX8_stops_51 : decode cX8_stops 51 = .ok (.iadd, 1) := by decide +kernel
theorem dX8_stops_52 : decode cX8_stops 52 = .ok (.iastore, 1) := by decide +kernel
theorem dX8_stops_53 : decode cX8_stops 53 = .ok (.iinc 1 1, 3) := by decide +kernel
theorem dX8_stops_56 : decode cX8_stops 56 = .ok (.goto (-54), 3) := by decide +kernel
theorem dX8_stops_59 : decode cX8_stops 59 = .ok (.iconst 0, 1) := by decide +kernel
theorem dX8_stops_60 : decode cX8_stops 60 = .ok (.istore_n 1, 1) := by decide +kernel
theorem dX8_stops_61 : decode cX8_stops 61 = .ok (.iload_n 1, 1) := by decide +kernel
theorem dX8_stops_62 : decode cX8_stops 62 = .ok (.aload_n 0, 1) := by decide +kernel
theorem dX8_stops_63 : decode cX8_stops 63 = .ok (.iconst 0, 1) := by decide +kernel
theorem dX8_stops_64 : decode cX8_stops 64 = .ok (.iaload, 1) := by decide +kernel
theorem dX8_stops_65 : decode cX8_stops 65 = .ok (.if_icmp .ge 70, 3) := by decide +kernel
theorem dX8_stops_68 : decode cX8_stops 68 = .ok (.aload_n 0, 1) := by decide +kernel
theorem dX8_stops_69 : decode cX8_stops 69 = .ok (.iload_n 1, 1) := by decide +kernel
theorem dX8_stops_70 : decode cX8_stops 70 = .ok (.iconst 3, 1) := by decide +kernel
theorem dX8_stops_71 : decode cX8_stops 71 = .ok (.invokestatic 52, 3) := by decide +kernel
theorem dX8_stops_74 : decode cX8_stops 74 = .ok (.ifCond .ne 55, 3) := by decide +kernel
theorem dX8_stops_77 : decode cX8_stops 77 = .ok (.aload_n 0, 1) := by decide +kernel
theorem dX8_stops_78 : decode cX8_stops 78 = .ok (.iload_n 1, 1) := by decide +kernel
theorem dX8_stops_79 : decode cX8_stops 79 = .ok (.iconst 4, 1) := by decide +kernel
theorem dX8_stops_80 : decode cX8_stops 80 = .ok (.invokestatic 52, 3) := by decide +kernel
theorem dX8_stops_83 : decode cX8_stops 83 = .ok (.aload_n 0, 1) := by decide +kernel
theorem dX8_stops_84 : decode cX8_stops 84 = .ok (.iconst 1, 1) := by decide +kernel
theorem dX8_stops_85 : decode cX8_stops 85 = .ok (.iaload, 1) := by decide +kernel
theorem dX8_stops_86 : decode cX8_stops 86 = .ok (.if_icmp .ne 43, 3) := by decide +kernel
theorem dX8_stops_89 : decode cX8_stops 89 = .ok (.aload_n 0, 1) := by decide +kernel
theorem dX8_stops_90 : decode cX8_stops 90 = .ok (.invokestatic 64, 3) := by decide +kernel
theorem dX8_stops_93 : decode cX8_stops 93 = .ok (.aload_n 0, 1) := by decide +kernel
theorem dX8_stops_94 : decode cX8_stops 94 = .ok (.iload_n 1, 1) := by decide +kernel
theorem dX8_stops_95 : decode cX8_stops 95 = .ok (.iconst 2, 1) := by decide +kernel
theorem dX8_stops_96 : decode cX8_stops 96 = .ok (.invokestatic 52, 3) := by decide +kernel
theorem dX8_stops_99 : decode cX8_stops 99 = .ok (.iadd, 1) := by decide +kernel
theorem dX8_stops_100 : decode cX8_stops 100 = .ok (.aload_n 0, 1) := by decide +kernel
theorem dX8_stops_101 : decode cX8_stops 101 = .ok (.bipush 7, 2) := by decide +kernel
theorem dX8_stops_103 : decode cX8_stops 103 = .ok (.iaload, 1) := by decide +kernel
theorem dX8_stops_104 : decode cX8_stops 104 = .ok (.if_icmp .gt 20, 3) := by decide +kernel
theorem dX8_stops_107 : decode cX8_stops 107 = .ok (.aload_n 0, 1) := by decide +kernel
theorem dX8_stops_108 : decode cX8_stops 108 = .ok (.iload_n 1, 1) := by decide +kernel
theorem dX8_stops_109 : decode cX8_stops 109 = .ok (.iconst 3, 1) := by decide +kernel
theorem dX8_stops_110 : decode cX8_stops 110 = .ok (.iconst 1, 1) := by decide +kernel
theorem dX8_stops_111 : decode cX8_stops 111 = .ok (.invokestatic 56, 3) := by decide +kernel
theorem dX8_stops_114 : decode cX8_stops 114 = .ok (.aload_n 0, 1) := by decide +kernel
theorem dX8_stops_115 : decode cX8_stops 115 = .ok (.iload_n 1, 1) := by decide +kernel
theorem dX8_stops_116 : decode cX8_stops 116 = .ok (.iconst 5, 1) := by decide +kernel
theorem dX8_stops_117 : decode cX8_stops 117 = .ok (.iconst 0, 1) := by decide +kernel
theorem dX8_stops_118 : decode cX8_stops 118 = .ok (.invokestatic 56, 3) := by decide +kernel
theorem dX8_stops_121 : decode cX8_stops 121 = .ok (.goto 8, 3) := by decide +kernel
theorem dX8_stops_124 : decode cX8_stops 124 = .ok (.aload_n 0, 1) := by decide +kernel
theorem dX8_stops_125 : decode cX8_stops 125 = .ok (.iload_n 1, 1) := by decide +kernel
theorem dX8_stops_126 : decode cX8_stops 126 = .ok (.invokestatic 60, 3) := by decide +kernel
theorem dX8_stops_129 : decode cX8_stops 129 = .ok (.iinc 1 1, 3) := by decide +kernel
theorem dX8_stops_132 : decode cX8_stops 132 = .ok (.goto (-71), 3) := by decide +kernel
theorem dX8_stops_135 : decode cX8_stops 135 = .ok (.return_, 1) := by decide +kernel
theorem dX8_goes_0 : decode cX8_goes 0 = .ok (.aload_n 0, 1) := by decide +kernel
theorem dX8_goes_1 : decode cX8_goes 1 = .ok (.iload_n 1, 1) := by decide +kernel
theorem dX8_goes_2 : decode cX8_goes 2 = .ok (.iconst 0, 1) := by decide +kernel
theorem dX8_goes_3 : decode cX8_goes 3 = .ok (.invokestatic 52, 3) := by decide +kernel
theorem dX8_goes_6 : decode cX8_goes 6 = .ok (.istore_n 2, 1) := by decide +kernel
theorem dX8_goes_7 : decode cX8_goes 7 = .ok (.iload_n 2, 1) := by decide +kernel
theorem dX8_goes_8 : decode cX8_goes 8 = .ok (.aload_n 0, 1) := by decide +kernel
theorem dX8_goes_9 : decode cX8_goes 9 = .ok (.iconst 1, 1) := by decide +kernel
theorem dX8_goes_10 : decode cX8_goes 10 = .ok (.iaload, 1) := by decide +kernel
theorem dX8_goes_11 : decode cX8_goes 11 = .ok (.if_icmp .le 7, 3) := by decide +kernel
theorem dX8_goes_14 : decode cX8_goes 14 = .ok (.iconst 1, 1) := by decide +kernel
theorem dX8_goes_15 : decode cX8_goes 15 = .ok (.goto 4, 3) := by decide +kernel
theorem dX8_goes_18 : decode cX8_goes 18 = .ok (.iconst (-1), 1) := by decide +kernel
theorem dX8_goes_19 : decode cX8_goes 19 = .ok (.istore_n 3, 1) := by decide +kernel
theorem dX8_goes_20 : decode cX8_goes 20 = .ok (.iconst 0, 1) := by decide +kernel
theorem dX8_goes_21 : decode cX8_goes 21 = .ok (.istore 4, 2) := by decide +kernel
theorem dX8_goes_23 : decode cX8_goes 23 = .ok (.aload_n 0, 1) := by decide +kernel
theorem dX8_goes_24 : decode cX8_goes 24 = .ok (.iconst 1, 1) := by decide +kernel
theorem dX8_goes_25 : decode cX8_goes 25 = .ok (.iaload, 1) := by decide +kernel
theorem dX8_goes_26 : decode cX8_goes 26 = .ok (.iload_n 2, 1) := by decide +kernel
theorem dX8_goes_27 : decode cX8_goes 27 = .ok (.if_icmp .eq 30, 3) := by decide +kernel
theorem dX8_goes_30 : decode cX8_goes 30 = .ok (.aload_n 0, 1) := by decide +kernel
theorem dX8_goes_31 : decode cX8_goes 31 = .ok (.iconst 1, 1) := by decide +kernel
theorem dX8_goes_32 : decode cX8_goes 32 = .ok (.dup2, 1) := by decide +kernel
theorem dX8_goes_33 : decode cX8_goes 33 = .ok (.iaload, 1) := by decide +kernel
theorem dX8_goes_34 : decode cX8_goes 34 = .ok (.iload_n 3, 1) := by decide +kernel
theorem dX8_goes_35 : decode cX8_goes 35 = .ok (.iadd, 1) := by decide +kernel
theorem dX8_goes_36 : decode cX8_goes 36 = .ok (.iastore, 1) := by decide +kernel
theorem dX8_goes_37 : decode cX8_goes 37 = .ok (.iinc 4 1, 3) := by decide +kernel
theorem dX8_goes_40 : decode cX8_goes 40 = .ok (.aload_n 0, 1) := by decide +kernel
theorem dX8_goes_41 : decode cX8_goes 41 = .ok (.iconst 1, 1) := by decide +kernel
theorem dX8_goes_42 : decode cX8_goes 42 = .ok (.iaload, 1) := by decide +kernel
theorem dX8_goes_43 : decode cX8_goes 43 = .ok (.iload_n 2, 1) := by decide +kernel
theorem dX8_goes_44 : decode cX8_goes 44 = .ok (.if_icmp .eq (-21), 3) := by decide +kernel
theorem dX8_goes_47 : decode cX8_goes 47 = .ok (.aload_n 0, 1) := by decide +kernel
theorem dX8_goes_48 : decode cX8_goes 48 = .ok (.aload_n 0, 1) := by decide +kernel
theorem dX8_goes_49 : decode cX8_goes 49 = .ok (.iconst 1, 1) := by decide +kernel
theorem dX8_goes_50 : decode cX8_goes 50 = .ok (.iaload, 1) := by decide +kernel
theorem dX8_goes_51 : decode cX8_goes 51 = .ok (.invokestatic 68, 3) := by decide +kernel
theorem dX8_goes_54 : decode cX8_goes 54 = .ok (.goto (-31), 3) := by decide +kernel
theorem dX8_goes_57 : decode cX8_goes 57 = .ok (.aload_n 0, 1) := by decide +kernel
theorem dX8_goes_58 : decode cX8_goes 58 = .ok (.iconst 5, 1) := by decide +kernel
theorem dX8_goes_59 : decode cX8_goes 59 = .ok (.dup2, 1) := by decide +kernel
theorem dX8_goes_60 : decode cX8_goes 60 = .ok (.iaload, 1) := by decide +kernel
theorem dX8_goes_61 : decode cX8_goes 61 = .ok (.iload 4, 2) := by decide +kernel
theorem dX8_goes_63 : decode cX8_goes 63 = .ok (.iadd, 1) := by decide +kernel
theorem dX8_goes_64 : decode cX8_goes 64 = .ok (.iastore, 1) := by decide +kernel
theorem dX8_goes_65 : decode cX8_goes 65 = .ok (.aload_n 0, 1) := by decide +kernel
theorem dX8_goes_66 : decode cX8_goes 66 = .ok (.iconst 2, 1) := by decide +kernel
theorem dX8_goes_67 : decode cX8_goes 67 = .ok (.dup2, 1) := by decide +kernel
theorem dX8_goes_68 : decode cX8_goes 68 = .ok (.iaload, 1) := by decide +kernel
theorem dX8_goes_69 : decode cX8_goes 69 = .ok (.iload 4, 2) := by decide +kernel
theorem dX8_goes_71 : decode cX8_goes 71 = .ok (.aload_n 0, 1) := by decide +kernel
theorem dX8_goes_72 : decode cX8_goes 72 = .ok (.bipush 9, 2) := by decide +kernel
theorem dX8_goes_74 : decode cX8_goes 74 = .ok (.iaload, 1) := by decide +kernel
theorem dX8_goes_75 : decode cX8_goes 75 = .ok (.imul, 1) := by decide +kernel
theorem dX8_goes_76 : decode cX8_goes 76 = .ok (.iconst 5, 1) := by decide +kernel
theorem dX8_goes_77 : decode cX8_goes 77 = .ok (.iadd, 1) := by decide +kernel
theorem dX8_goes_78 : decode cX8_goes 78 = .ok (.iadd, 1) := by decide +kernel
theorem dX8_goes_79 : decode cX8_goes 79 = .ok (.iastore, 1) := by decide +kernel
theorem dX8_goes_80 : decode cX8_goes 80 = .ok (.aload_n 0, 1) := by decide +kernel
theorem dX8_goes_81 : decode cX8_goes 81 = .ok (.iconst 3, 1) := by decide +kernel
theorem dX8_goes_82 : decode cX8_goes 82 = .ok (.dup2, 1) := by decide +kernel
theorem dX8_goes_83 : decode cX8_goes 83 = .ok (.iaload, 1) := by decide +kernel
theorem dX8_goes_84 : decode cX8_goes 84 = .ok (.iconst 1, 1) := by decide +kernel
theorem dX8_goes_85 : decode cX8_goes 85 = .ok (.iadd, 1) := by decide +kernel
theorem dX8_goes_86 : decode cX8_goes 86 = .ok (.iastore, 1) := by decide +kernel
theorem dX8_goes_87 : decode cX8_goes 87 = .ok (.aload_n 0, 1) := by decide +kernel
theorem dX8_goes_88 : decode cX8_goes 88 = .ok (.iload_n 1, 1) := by decide +kernel
theorem dX8_goes_89 : decode cX8_goes 89 = .ok (.bipush 6, 2) := by decide +kernel
theorem dX8_goes_91 : decode cX8_goes 91 = .ok (.aload_n 0, 1) := by decide +kernel
theorem dX8_goes_92 : decode cX8_goes 92 = .ok (.iload_n 1, 1) := by decide +kernel
theorem dX8_goes_93 : decode cX8_goes 93 = .ok (.bipush 6, 2) := by decide +kernel
theorem dX8_goes_95 : decode cX8_goes 95 = .ok (.invokestatic 52, 3) := by decide +kernel
theorem dX8_goes_98 : decode cX8_goes 98 = .ok (.iconst 1, 1) := by decide +kernel
theorem dX8_goes_99 : decode cX8_goes 99 = .ok (.iadd, 1) := by decide +kernel
theorem dX8_goes_100 : decode cX8_goes 100 = .ok (.invokestatic 56, 3) := by decide +kernel
theorem dX8_goes_103 : decode cX8_goes 103 = .ok (.iconst 0, 1) := by decide +kernel
theorem dX8_goes_104 : decode cX8_goes 104 = .ok (.istore 5, 2) := by decide +kernel
theorem dX8_goes_106 : decode cX8_goes 106 = .ok (.iload 5, 2) := by decide +kernel
theorem dX8_goes_108 : decode cX8_goes 108 = .ok (.aload_n 0, 1) := by decide +kernel
theorem dX8_goes_109 : decode cX8_goes 109 = .ok (.iconst 0, 1) := by decide +kernel
theorem dX8_goes_110 : decode cX8_goes 110 = .ok (.iaload, 1) := by decide +kernel
theorem dX8_goes_111 : decode cX8_goes 111 = .ok (.if_icmp .ge 47, 3) := by decide +kernel
theorem dX8_goes_114 : decode cX8_goes 114 = .ok (.aload_n 0, 1) := by decide +kernel
theorem dX8_goes_115 : decode cX8_goes 115 = .ok (.iload 5, 2) := by decide +kernel
theorem dX8_goes_117 : decode cX8_goes 117 = .ok (.iconst 3, 1) := by decide +kernel
theorem dX8_goes_118 : decode cX8_goes 118 = .ok (.invokestatic 52, 3) := by decide +kernel
theorem dX8_goes_121 : decode cX8_goes 121 = .ok (.iconst 1, 1) := by decide +kernel
theorem dX8_goes_122 : decode cX8_goes 122 = .ok (.if_icmp .ne 30, 3) := by decide +kernel
theorem dX8_goes_125 : decode cX8_goes 125 = .ok (.aload_n 0, 1) := by decide +kernel
theorem dX8_goes_126 : decode cX8_goes 126 = .ok (.iload 5, 2) := by decide +kernel
theorem dX8_goes_128 : decode cX8_goes 128 = .ok (.bipush 7, 2) := by decide +kernel
theorem dX8_goes_130 : decode cX8_goes 130 = .ok (.aload_n 0, 1) := by decide +kernel
theorem dX8_goes_131 : decode cX8_goes 131 = .ok (.iload 5, 2) := by decide +kernel
theorem dX8_goes_133 : decode cX8_goes 133 = .ok (.bipush 7, 2) := by decide +kernel
theorem dX8_goes_135 : decode cX8_goes 135 = .ok (.invokestatic 52, 3) := by decide +kernel
theorem dX8_goes_138 : decode cX8_goes 138 = .ok (.iload 4, 2) := by decide +kernel
theorem dX8_goes_140 : decode cX8_goes 140 = .ok (.iadd, 1) := by decide +kernel
theorem dX8_goes_141 : decode cX8_goes 141 = .ok (.invokestatic 56, 3) := by decide +kernel
theorem dX8_goes_144 : decode cX8_goes 144 = .ok (.aload_n 0, 1) := by decide +kernel
theorem dX8_goes_145 : decode cX8_goes 145 = .ok (.iload 5, 2) := by decide +kernel
theorem dX8_goes_147 : decode cX8_goes 147 = .ok (.iconst 4, 1) := by decide +kernel
theorem dX8_goes_148 : decode cX8_goes 148 = .ok (.iload_n 2, 1) := by decide +kernel
theorem dX8_goes_149 : decode cX8_goes 149 = .ok (.invokestatic 56, 3) := by decide +kernel
theorem dX8_goes_152 : decode cX8_goes 152 = .ok (.iinc 5 1, 3) := by decide +kernel
theorem dX8_goes_155 : decode cX8_goes 155 = .ok (.goto (-49), 3) := by decide +kernel
theorem dX8_goes_158 : decode cX8_goes 158 = .ok (.aload_n 0, 1) := by decide +kernel
theorem dX8_goes_159 : decode cX8_goes 159 = .ok (.invokestatic 71, 3) := by decide +kernel
theorem dX8_goes_162 : decode cX8_goes 162 = .ok (.return_, 1) := by decide +kernel
theorem dX8_pressOn_0 : decode cX8_pressOn 0 = .ok (.aload_n 0, 1) := by decide +kernel
theorem dX8_pressOn_1 : decode cX8_pressOn 1 = .ok (.iload_n 1, 1) := by decide +kernel
theorem dX8_pressOn_2 : decode cX8_pressOn 2 = .ok (.invokestatic 74, 3) := by decide +kernel
theorem dX8_pressOn_5 : decode cX8_pressOn 5 = .ok (.istore_n 2, 1) := by decide +kernel
theorem dX8_pressOn_6 : decode cX8_pressOn 6 = .ok (.iload_n 2, 1) := by decide +kernel
theorem dX8_pressOn_7 : decode cX8_pressOn 7 = .ok (.ifCond .ne 11, 3) := by decide +kernel
theorem dX8_pressOn_10 : decode cX8_pressOn 10 = .ok (.aload_n 0, 1) := by decide +kernel
theorem dX8_pressOn_11 : decode cX8_pressOn 11 = .ok (.iload_n 1, 1) := by decide +kernel
theorem dX8_pressOn_12 : decode cX8_pressOn 12 = .ok (.invokestatic 78, 3) := by decide +kernel
theorem dX8_pressOn_15 : decode cX8_pressOn 15 = .ok (.goto 10, 3) := by decide +kernel
theorem dX8_pressOn_18 : decode cX8_pressOn 18 = .ok (.aload_n 0, 1) := by decide +kernel
theorem dX8_pressOn_19 : decode cX8_pressOn 19 = .ok (.iconst 4, 1) := by decide +kernel
theorem dX8_pressOn_20 : decode cX8_pressOn 20 = .ok (.dup2, 1) := by decide +kernel
theorem dX8_pressOn_21 : decode cX8_pressOn 21 = .ok (.iaload, 1) := by decide +kernel
theorem dX8_pressOn_22 : decode cX8_pressOn 22 = .ok (.iconst 1, 1) := by decide +kernel
theorem dX8_pressOn_23 : decode cX8_pressOn 23 = .ok (.iadd, 1) := by decide +kernel
theorem dX8_pressOn_24 : decode cX8_pressOn 24 = .ok (.iastore, 1) := by decide +kernel
theorem dX8_pressOn_25 : decode cX8_pressOn 25 = .ok (.iload_n 2, 1) := by decide +kernel
theorem dX8_pressOn_26 : decode cX8_pressOn 26 = .ok (.ireturn, 1) := by decide +kernel
theorem dX8_comeOn_0 : decode cX8_comeOn 0 = .ok (.aload_n 0, 1) := by decide +kernel
theorem dX8_comeOn_1 : decode cX8_comeOn 1 = .ok (.iconst 0, 1) := by decide +kernel
theorem dX8_comeOn_2 : decode cX8_comeOn 2 = .ok (.iaload, 1) := by decide +kernel
theorem dX8_comeOn_3 : decode cX8_comeOn 3 = .ok (.istore 5, 2) := by decide +kernel
theorem dX8_comeOn_5 : decode cX8_comeOn 5 = .ok (.aload_n 0, 1) := by decide +kernel
theorem dX8_comeOn_6 : decode cX8_comeOn 6 = .ok (.iload 5, 2) := by decide +kernel
theorem dX8_comeOn_8 : decode cX8_comeOn 8 = .ok (.iconst 0, 1) := by decide +kernel
theorem dX8_comeOn_9 : decode cX8_comeOn 9 = .ok (.iload_n 1, 1) := by decide +kernel
theorem dX8_comeOn_10 : decode cX8_comeOn 10 = .ok (.invokestatic 56, 3) := by decide +kernel
theorem dX8_comeOn_13 : decode cX8_comeOn 13 = .ok (.aload_n 0, 1) := by decide +kernel
theorem dX8_comeOn_14 : decode cX8_comeOn 14 = .ok (.iload 5, 2) := by decide +kernel
theorem dX8_comeOn_16 : decode cX8_comeOn 16 = .ok (.iconst 1, 1) := by decide +kernel
theorem dX8_comeOn_17 : decode cX8_comeOn 17 = .ok (.iload_n 3, 1) := by decide +kernel
theorem dX8_comeOn_18 : decode cX8_comeOn 18 = .ok (.invokestatic 56, 3) := by decide +kernel
theorem dX8_comeOn_21 : decode cX8_comeOn 21 = .ok (.aload_n 0, 1) := by decide +kernel
theorem dX8_comeOn_22 : decode cX8_comeOn 22 = .ok (.iload 5, 2) := by decide +kernel
theorem dX8_comeOn_24 : decode cX8_comeOn 24 = .ok (.iconst 2, 1) := by decide +kernel
theorem dX8_comeOn_25 : decode cX8_comeOn 25 = .ok (.iload 4, 2) := by decide +kernel
theorem dX8_comeOn_27 : decode cX8_comeOn 27 = .ok (.invokestatic 56, 3) := by decide +kernel
theorem dX8_comeOn_30 : decode cX8_comeOn 30 = .ok (.aload_n 0, 1) := by decide +kernel
theorem dX8_comeOn_31 : decode cX8_comeOn 31 = .ok (.iload 5, 2) := by decide +kernel
theorem dX8_comeOn_33 : decode cX8_comeOn 33 = .ok (.iconst 3, 1) := by decide +kernel
theorem dX8_comeOn_34 : decode cX8_comeOn 34 = .ok (.iload_n 2, 1) := by decide +kernel
theorem dX8_comeOn_35 : decode cX8_comeOn 35 = .ok (.iload_n 3, 1) := by decide +kernel
theorem dX8_comeOn_36 : decode cX8_comeOn 36 = .ok (.if_icmp .ne 7, 3) := by decide +kernel
theorem dX8_comeOn_39 : decode cX8_comeOn 39 = .ok (.iconst 2, 1) := by decide +kernel
theorem dX8_comeOn_40 : decode cX8_comeOn 40 = .ok (.goto 4, 3) := by decide +kernel
theorem dX8_comeOn_43 : decode cX8_comeOn 43 = .ok (.iconst 0, 1) := by decide +kernel
theorem dX8_comeOn_44 : decode cX8_comeOn 44 = .ok (.invokestatic 56, 3) := by decide +kernel
theorem dX8_comeOn_47 : decode cX8_comeOn 47 = .ok (.aload_n 0, 1) := by decide +kernel
theorem dX8_comeOn_48 : decode cX8_comeOn 48 = .ok (.iload 5, 2) := by decide +kernel
theorem dX8_comeOn_50 : decode cX8_comeOn 50 = .ok (.iconst 4, 1) := by decide +kernel
theorem dX8_comeOn_51 : decode cX8_comeOn 51 = .ok (.iload_n 2, 1) := by decide +kernel
theorem dX8_comeOn_52 : decode cX8_comeOn 52 = .ok (.invokestatic 56, 3) := by decide +kernel
theorem dX8_comeOn_55 : decode cX8_comeOn 55 = .ok (.aload_n 0, 1) := by decide +kernel
theorem dX8_comeOn_56 : decode cX8_comeOn 56 = .ok (.iload 5, 2) := by decide +kernel
theorem dX8_comeOn_58 : decode cX8_comeOn 58 = .ok (.iconst 5, 1) := by decide +kernel
theorem dX8_comeOn_59 : decode cX8_comeOn 59 = .ok (.iconst 0, 1) := by decide +kernel
theorem dX8_comeOn_60 : decode cX8_comeOn 60 = .ok (.invokestatic 56, 3) := by decide +kernel
theorem dX8_comeOn_63 : decode cX8_comeOn 63 = .ok (.aload_n 0, 1) := by decide +kernel
theorem dX8_comeOn_64 : decode cX8_comeOn 64 = .ok (.iload 5, 2) := by decide +kernel
theorem dX8_comeOn_66 : decode cX8_comeOn 66 = .ok (.bipush 6, 2) := by decide +kernel
theorem dX8_comeOn_68 : decode cX8_comeOn 68 = .ok (.iconst 0, 1) := by decide +kernel
theorem dX8_comeOn_69 : decode cX8_comeOn 69 = .ok (.invokestatic 56, 3) := by decide +kernel
theorem dX8_comeOn_72 : decode cX8_comeOn 72 = .ok (.aload_n 0, 1) := by decide +kernel
theorem dX8_comeOn_73 : decode cX8_comeOn 73 = .ok (.iload 5, 2) := by decide +kernel
theorem dX8_comeOn_75 : decode cX8_comeOn 75 = .ok (.bipush 7, 2) := by decide +kernel
theorem dX8_comeOn_77 : decode cX8_comeOn 77 = .ok (.iconst 0, 1) := by decide +kernel
theorem dX8_comeOn_78 : decode cX8_comeOn 78 = .ok (.invokestatic 56, 3) := by decide +kernel
theorem dX8_comeOn_81 : decode cX8_comeOn 81 = .ok (.aload_n 0, 1) := by decide +kernel
theorem dX8_comeOn_82 : decode cX8_comeOn 82 = .ok (.iconst 0, 1) := by decide +kernel
theorem dX8_comeOn_83 : decode cX8_comeOn 83 = .ok (.dup2, 1) := by decide +kernel
theorem dX8_comeOn_84 : decode cX8_comeOn 84 = .ok (.iaload, 1) := by decide +kernel
theorem dX8_comeOn_85 : decode cX8_comeOn 85 = .ok (.iconst 1, 1) := by decide +kernel
theorem dX8_comeOn_86 : decode cX8_comeOn 86 = .ok (.iadd, 1) := by decide +kernel
theorem dX8_comeOn_87 : decode cX8_comeOn 87 = .ok (.iastore, 1) := by decide +kernel
theorem dX8_comeOn_88 : decode cX8_comeOn 88 = .ok (.iload 5, 2) := by decide +kernel
theorem dX8_comeOn_90 : decode cX8_comeOn 90 = .ok (.ireturn, 1) := by decide +kernel
theorem dX8_leaveOn_0 : decode cX8_leaveOn 0 = .ok (.aload_n 0, 1) := by decide +kernel
theorem dX8_leaveOn_1 : decode cX8_leaveOn 1 = .ok (.iload_n 1, 1) := by decide +kernel
theorem dX8_leaveOn_2 : decode cX8_leaveOn 2 = .ok (.iconst 5, 1) := by decide +kernel
theorem dX8_leaveOn_3 : decode cX8_leaveOn 3 = .ok (.invokestatic 52, 3) := by decide +kernel
theorem dX8_leaveOn_6 : decode cX8_leaveOn 6 = .ok (.istore_n 2, 1) := by decide +kernel
theorem dX8_leaveOn_7 : decode cX8_leaveOn 7 = .ok (.bipush 10, 2) := by decide +kernel
theorem dX8_leaveOn_9 : decode cX8_leaveOn 9 = .ok (.bipush 8, 2) := by decide +kernel
theorem dX8_leaveOn_11 : decode cX8_leaveOn 11 = .ok (.iload_n 1, 1) := by decide +kernel
theorem dX8_leaveOn_12 : decode cX8_leaveOn 12 = .ok (.imul, 1) := by decide +kernel
theorem dX8_leaveOn_13 : decode cX8_leaveOn 13 = .ok (.iadd, 1) := by decide +kernel
theorem dX8_leaveOn_14 : decode cX8_leaveOn 14 = .ok (.istore_n 3, 1) := by decide +kernel
theorem dX8_leaveOn_15 : decode cX8_leaveOn 15 = .ok (.iload_n 3, 1) := by decide +kernel
theorem dX8_leaveOn_16 : decode cX8_leaveOn 16 = .ok (.bipush 10, 2) := by decide +kernel
theorem dX8_leaveOn_18 : decode cX8_leaveOn 18 = .ok (.bipush 8, 2) := by decide +kernel
theorem dX8_leaveOn_20 : decode cX8_leaveOn 20 = .ok (.aload_n 0, 1) := by decide +kernel
theorem dX8_leaveOn_21 : decode cX8_leaveOn 21 = .ok (.iconst 0, 1) := by decide +kernel
theorem dX8_leaveOn_22 : decode cX8_leaveOn 22 = .ok (.iaload, 1) := by decide +kernel
theorem dX8_leaveOn_23 : decode cX8_leaveOn 23 = .ok (.iconst 1, 1) := by decide +kernel
theorem dX8_leaveOn_24 : decode cX8_leaveOn 24 = .ok (.isub, 1) := by decide +kernel
theorem dX8_leaveOn_25 : decode cX8_leaveOn 25 = .ok (.imul, 1) := by decide +kernel
theorem dX8_leaveOn_26 : decode cX8_leaveOn 26 = .ok (.iadd, 1) := by decide +kernel
theorem dX8_leaveOn_27 : decode cX8_leaveOn 27 = .ok (.if_icmp .ge 18, 3) := by decide +kernel
theorem dX8_leaveOn_30 : decode cX8_leaveOn 30 = .ok (.aload_n 0, 1) := by decide +kernel
theorem dX8_leaveOn_31 : decode cX8_leaveOn 31 = .ok (.iload_n 3, 1) := by decide +kernel
theorem dX8_leaveOn_32 : decode cX8_leaveOn 32 = .ok (.aload_n 0, 1) := by decide +kernel
theorem dX8_leaveOn_33 : decode cX8_leaveOn 33 = .ok (.iload_n 3, 1) := by decide +kernel
theorem dX8_leaveOn_34 : decode cX8_leaveOn 34 = .ok (.bipush 8, 2) := by decide +kernel
theorem dX8_leaveOn_36 : decode cX8_leaveOn 36 = .ok (.iadd, 1) := by decide +kernel
theorem dX8_leaveOn_37 : decode cX8_leaveOn 37 = .ok (.iaload, 1) := by decide +kernel
theorem dX8_leaveOn_38 : decode cX8_leaveOn 38 = .ok (.iastore, 1) := by decide +kernel
theorem dX8_leaveOn_39 : decode cX8_leaveOn 39 = .ok (.iinc 3 1, 3) := by decide +kernel
theorem dX8_leaveOn_42 : decode cX8_leaveOn 42 = .ok (.goto (-27), 3) := by decide +kernel
theorem dX8_leaveOn_45 : decode cX8_leaveOn 45 = .ok (.aload_n 0, 1) := by decide +kernel
theorem dX8_leaveOn_46 : decode cX8_leaveOn 46 = .ok (.iconst 0, 1) := by decide +kernel
theorem dX8_leaveOn_47 : decode cX8_leaveOn 47 = .ok (.dup2, 1) := by decide +kernel
theorem dX8_leaveOn_48 : decode cX8_leaveOn 48 = .ok (.iaload, 1) := by decide +kernel
theorem dX8_leaveOn_49 : decode cX8_leaveOn 49 = .ok (.iconst 1, 1) := by decide +kernel
theorem dX8_leaveOn_50 : decode cX8_leaveOn 50 = .ok (.isub, 1) := by decide +kernel
theorem dX8_leaveOn_51 : decode cX8_leaveOn 51 = .ok (.iastore, 1) := by decide +kernel
theorem dX8_leaveOn_52 : decode cX8_leaveOn 52 = .ok (.iload_n 2, 1) := by decide +kernel
theorem dX8_leaveOn_53 : decode cX8_leaveOn 53 = .ok (.ireturn, 1) := by decide +kernel
theorem dX8_restOn_0 : decode cX8_restOn 0 = .ok (.aload_n 0, 1) := by decide +kernel
theorem dX8_restOn_1 : decode cX8_restOn 1 = .ok (.iconst 2, 1) := by decide +kernel
theorem dX8_restOn_2 : decode cX8_restOn 2 = .ok (.dup2, 1) := by decide +kernel
theorem dX8_restOn_3 : decode cX8_restOn 3 = .ok (.iaload, 1) := by decide +kernel
theorem dX8_restOn_4 : decode cX8_restOn 4 = .ok (.bipush 30, 2) := by decide +kernel
theorem dX8_restOn_6 : decode cX8_restOn 6 = .ok (.iadd, 1) := by decide +kernel
theorem dX8_restOn_7 : decode cX8_restOn 7 = .ok (.iastore, 1) := by decide +kernel
theorem dX8_restOn_8 : decode cX8_restOn 8 = .ok (.iconst 0, 1) := by decide +kernel
theorem dX8_restOn_9 : decode cX8_restOn 9 = .ok (.istore_n 1, 1) := by decide +kernel
theorem dX8_restOn_10 : decode cX8_restOn 10 = .ok (.iload_n 1, 1) := by decide +kernel
theorem dX8_restOn_11 : decode cX8_restOn 11 = .ok (.aload_n 0, 1) := by decide +kernel
theorem dX8_restOn_12 : decode cX8_restOn 12 = .ok (.iconst 0, 1) := by decide +kernel
theorem dX8_restOn_13 : decode cX8_restOn 13 = .ok (.iaload, 1) := by decide +kernel
theorem dX8_restOn_14 : decode cX8_restOn 14 = .ok (.if_icmp .ge 36, 3) := by decide +kernel
theorem dX8_restOn_17 : decode cX8_restOn 17 = .ok (.aload_n 0, 1) := by decide +kernel
theorem dX8_restOn_18 : decode cX8_restOn 18 = .ok (.iload_n 1, 1) := by decide +kernel
theorem dX8_restOn_19 : decode cX8_restOn 19 = .ok (.iconst 5, 1) := by decide +kernel
theorem dX8_restOn_20 : decode cX8_restOn 20 = .ok (.aload_n 0, 1) := by decide +kernel
theorem dX8_restOn_21 : decode cX8_restOn 21 = .ok (.iload_n 1, 1) := by decide +kernel
theorem dX8_restOn_22 : decode cX8_restOn 22 = .ok (.iconst 5, 1) := by decide +kernel
theorem dX8_restOn_23 : decode cX8_restOn 23 = .ok (.invokestatic 52, 3) := by decide +kernel
theorem dX8_restOn_26 : decode cX8_restOn 26 = .ok (.ifCond .le 14, 3) := by decide +kernel
theorem dX8_restOn_29 : decode cX8_restOn 29 = .ok (.aload_n 0, 1) := by decide +kernel
theorem dX8_restOn_30 : decode cX8_restOn 30 = .ok (.iload_n 1, 1) := by decide +kernel
theorem dX8_restOn_31 : decode cX8_restOn 31 = .ok (.iconst 5, 1) := by decide +kernel
theorem dX8_restOn_32 : decode cX8_restOn 32 = .ok (.invokestatic 52, 3) := by decide +kernel
theorem dX8_restOn_35 : decode cX8_restOn 35 = .ok (.iconst 1, 1) := by decide +kernel
theorem dX8_restOn_36 : decode cX8_restOn 36 = .ok (.isub, 1) := by decide +kernel
theorem dX8_restOn_37 : decode cX8_restOn 37 = .ok (.goto 4, 3) := by decide +kernel
theorem dX8_restOn_40 : decode cX8_restOn 40 = .ok (.iconst 0, 1) := by decide +kernel
theorem dX8_restOn_41 : decode cX8_restOn 41 = .ok (.invokestatic 56, 3) := by decide +kernel
theorem dX8_restOn_44 : decode cX8_restOn 44 = .ok (.iinc 1 1, 3) := by decide +kernel
theorem dX8_restOn_47 : decode cX8_restOn 47 = .ok (.goto (-37), 3) := by decide +kernel
theorem dX8_restOn_50 : decode cX8_restOn 50 = .ok (.aload_n 0, 1) := by decide +kernel
theorem dX8_restOn_51 : decode cX8_restOn 51 = .ok (.invokestatic 81, 3) := by decide +kernel
theorem dX8_restOn_54 : decode cX8_restOn 54 = .ok (.ireturn, 1) := by decide +kernel
theorem dX8_change_0 : decode cX8_change 0 = .ok (.aload_n 0, 1) := by decide +kernel
theorem dX8_change_1 : decode cX8_change 1 = .ok (.bipush 7, 2) := by decide +kernel
theorem dX8_change_3 : decode cX8_change 3 = .ok (.iload_n 1, 1) := by decide +kernel
theorem dX8_change_4 : decode cX8_change 4 = .ok (.iadd, 1) := by decide +kernel
theorem dX8_change_5 : decode cX8_change 5 = .ok (.iaload, 1) := by decide +kernel
theorem dX8_change_6 : decode cX8_change 6 = .ok (.istore_n 3, 1) := by decide +kernel
theorem dX8_change_7 : decode cX8_change 7 = .ok (.aload_n 0, 1) := by decide +kernel
theorem dX8_change_8 : decode cX8_change 8 = .ok (.bipush 7, 2) := by decide +kernel
theorem dX8_change_10 : decode cX8_change 10 = .ok (.iload_n 1, 1) := by decide +kernel
theorem dX8_change_11 : decode cX8_change 11 = .ok (.iadd, 1) := by decide +kernel
theorem dX8_change_12 : decode cX8_change 12 = .ok (.iload_n 2, 1) := by decide +kernel
theorem dX8_change_13 : decode cX8_change 13 = .ok (.iastore, 1) := by decide +kernel
theorem dX8_change_14 : decode cX8_change 14 = .ok (.iload_n 3, 1) := by decide +kernel
theorem dX8_change_15 : decode cX8_change 15 = .ok (.ireturn, 1) := by decide +kernel
theorem dX8_areHome_0 : decode cX8_areHome 0 = .ok (.aload_n 0, 1) := by decide +kernel
theorem dX8_areHome_1 : decode cX8_areHome 1 = .ok (.iconst 2, 1) := by decide +kernel
theorem dX8_areHome_2 : decode cX8_areHome 2 = .ok (.invokestatic 84, 3) := by decide +kernel
theorem dX8_areHome_5 : decode cX8_areHome 5 = .ok (.aload_n 0, 1) := by decide +kernel
theorem dX8_areHome_6 : decode cX8_areHome 6 = .ok (.iconst 0, 1) := by decide +kernel
theorem dX8_areHome_7 : decode cX8_areHome 7 = .ok (.iaload, 1) := by decide +kernel
theorem dX8_areHome_8 : decode cX8_areHome 8 = .ok (.if_icmp .ne 7, 3) := by decide +kernel
theorem dX8_areHome_11 : decode cX8_areHome 11 = .ok (.iconst 1, 1) := by decide +kernel
theorem dX8_areHome_12 : decode cX8_areHome 12 = .ok (.goto 4, 3) := by decide +kernel
theorem dX8_areHome_15 : decode cX8_areHome 15 = .ok (.iconst 0, 1) := by decide +kernel
theorem dX8_areHome_16 : decode cX8_areHome 16 = .ok (.ireturn, 1) := by decide +kernel
theorem dX8_bringsHome_0 : decode cX8_bringsHome 0 = .ok (.aload_n 1, 1) := by decide +kernel
theorem dX8_bringsHome_1 : decode cX8_bringsHome 1 = .ok (.iconst 0, 1) := by decide +kernel
theorem dX8_bringsHome_2 : decode cX8_bringsHome 2 = .ok (.aload_n 0, 1) := by decide +kernel
theorem dX8_bringsHome_3 : decode cX8_bringsHome 3 = .ok (.getfield 19, 3) := by decide +kernel
theorem dX8_bringsHome_6 : decode cX8_bringsHome 6 = .ok (.iconst 0, 1) := by decide +kernel
theorem dX8_bringsHome_7 : decode cX8_bringsHome 7 = .ok (.invokestatic 87, 3) := by decide +kernel
theorem dX8_bringsHome_10 : decode cX8_bringsHome 10 = .ok (.iconst 1, 1) := by decide +kernel
theorem dX8_bringsHome_11 : decode cX8_bringsHome 11 = .ok (.istore 4, 2) := by decide +kernel
theorem dX8_bringsHome_13 : decode cX8_bringsHome 13 = .ok (.iconst 1, 1) := by decide +kernel
theorem dX8_bringsHome_14 : decode cX8_bringsHome 14 = .ok (.istore 5, 2) := by decide +kernel
theorem dX8_bringsHome_16 : decode cX8_bringsHome 16 = .ok (.iload 5, 2) := by decide +kernel
theorem dX8_bringsHome_18 : decode cX8_bringsHome 18 = .ok (.iload_n 2, 1) := by decide +kernel
theorem dX8_bringsHome_19 : decode cX8_bringsHome 19 = .ok (.if_icmp .ge 15, 3) := by decide +kernel
theorem dX8_bringsHome_22 : decode cX8_bringsHome 22 = .ok (.iload 4, 2) := by decide +kernel
theorem dX8_bringsHome_24 : decode cX8_bringsHome 24 = .ok (.iconst 4, 1) := by decide +kernel
theorem dX8_bringsHome_25 : decode cX8_bringsHome 25 = .ok (.imul, 1) := by decide +kernel
theorem dX8_bringsHome_26 : decode cX8_bringsHome 26 = .ok (.istore 4, 2) := by decide +kernel
theorem dX8_bringsHome_28 : decode cX8_bringsHome 28 = .ok (.iinc 5 1, 3) := by decide +kernel
theorem dX8_bringsHome_31 : decode cX8_bringsHome 31 = .ok (.goto (-15), 3) := by decide +kernel
theorem dX8_bringsHome_34 : decode cX8_bringsHome 34 = .ok (.iload_n 3, 1) := by decide +kernel
theorem dX8_bringsHome_35 : decode cX8_bringsHome 35 = .ok (.istore 5, 2) := by decide +kernel
theorem dX8_bringsHome_37 : decode cX8_bringsHome 37 = .ok (.iconst 0, 1) := by decide +kernel
theorem dX8_bringsHome_38 : decode cX8_bringsHome 38 = .ok (.istore 6, 2) := by decide +kernel
theorem dX8_bringsHome_40 : decode cX8_bringsHome 40 = .ok (.iload 6, 2) := by decide +kernel
theorem dX8_bringsHome_42 : decode cX8_bringsHome 42 = .ok (.iload_n 2, 1) := by decide +kernel
theorem dX8_bringsHome_43 : decode cX8_bringsHome 43 = .ok (.if_icmp .ge 78, 3) := by decide +kernel
theorem dX8_bringsHome_46 : decode cX8_bringsHome 46 = .ok (.iload 5, 2) := by decide +kernel
theorem dX8_bringsHome_48 : decode cX8_bringsHome 48 = .ok (.iload 4, 2) := by decide +kernel
theorem dX8_bringsHome_50 : decode cX8_bringsHome 50 = .ok (.idiv, 1) := by decide +kernel
theorem dX8_bringsHome_51 : decode cX8_bringsHome 51 = .ok (.istore 7, 2) := by decide +kernel
theorem dX8_bringsHome_53 : decode cX8_bringsHome 53 = .ok (.iload 5, 2) := by decide +kernel
theorem dX8_bringsHome_55 : decode cX8_bringsHome 55 = .ok (.iload 4, 2) := by decide +kernel
theorem dX8_bringsHome_57 : decode cX8_bringsHome 57 = .ok (.irem, 1) := by decide +kernel
theorem dX8_bringsHome_58 : decode cX8_bringsHome 58 = .ok (.istore 5, 2) := by decide +kernel
theorem dX8_bringsHome_60 : decode cX8_bringsHome 60 = .ok (.iload 4, 2) := by decide +kernel
theorem dX8_bringsHome_62 : decode cX8_bringsHome 62 = .ok (.iconst 4, 1) := by decide +kernel
theorem dX8_bringsHome_63 : decode cX8_bringsHome 63 = .ok (.idiv, 1) := by decide +kernel
theorem dX8_bringsHome_64 : decode cX8_bringsHome 64 = .ok (.istore 4, 2) := by decide +kernel
theorem dX8_bringsHome_66 : decode cX8_bringsHome 66 = .ok (.aload_n 0, 1) := by decide +kernel
theorem dX8_bringsHome_67 : decode cX8_bringsHome 67 = .ok (.getfield 19, 3) := by decide +kernel
theorem dX8_bringsHome_70 : decode cX8_bringsHome 70 = .ok (.iload 7, 2) := by decide +kernel
theorem dX8_bringsHome_72 : decode cX8_bringsHome 72 = .ok (.invokestatic 91, 3) := by decide +kernel
theorem dX8_bringsHome_75 : decode cX8_bringsHome 75 = .ok (.ifCond .eq 15, 3) := by decide +kernel
theorem dX8_bringsHome_78 : decode cX8_bringsHome 78 = .ok (.aload_n 0, 1) := by decide +kernel
theorem dX8_bringsHome_79 : decode cX8_bringsHome 79 = .ok (.getfield 19, 3) := by decide +kernel
theorem dX8_bringsHome_82 : decode cX8_bringsHome 82 = .ok (.iload 7, 2) := by decide +kernel
theorem dX8_bringsHome_84 : decode cX8_bringsHome 84 = .ok (.invokestatic 74, 3) := by decide +kernel
theorem dX8_bringsHome_87 : decode cX8_bringsHome 87 = .ok (.ifCond .eq 5, 3) := by decide +kernel
theorem dX8_bringsHome_90 : decode cX8_bringsHome 90 = .ok (.iconst 0, 1) := by decide +kernel
theorem dX8_bringsHome_91 : decode cX8_bringsHome 91 = .ok (.ireturn, 1) := by decide +kernel
theorem dX8_bringsHome_92 : decode cX8_bringsHome 92 = .ok (.aload_n 0, 1) := by decide +kernel
theorem dX8_bringsHome_93 : decode cX8_bringsHome 93 = .ok (.getfield 19, 3) := by decide +kernel
theorem dX8_bringsHome_96 : decode cX8_bringsHome 96 = .ok (.iload 7, 2) := by decide +kernel
theorem dX8_bringsHome_98 : decode cX8_bringsHome 98 = .ok (.invokestatic 78, 3) := by decide +kernel
theorem dX8_bringsHome_101 : decode cX8_bringsHome 101 = .ok (.iload 4, 2) := by decide +kernel
theorem dX8_bringsHome_103 : decode cX8_bringsHome 103 = .ok (.iconst 1, 1) := by decide +kernel
theorem dX8_bringsHome_104 : decode cX8_bringsHome 104 = .ok (.if_icmp .ge 7, 3) := by decide +kernel
theorem dX8_bringsHome_107 : decode cX8_bringsHome 107 = .ok (.iconst 1, 1) := by decide +kernel
theorem dX8_bringsHome_108 : decode cX8_bringsHome 108 = .ok (.goto 5, 3) := by decide +kernel
theorem dX8_bringsHome_111 : decode cX8_bringsHome 111 = .ok (.iload 4, 2) := by decide +kernel
theorem dX8_bringsHome_113 : decode cX8_bringsHome 113 = .ok (.istore 4, 2) := by decide +kernel
theorem dX8_bringsHome_115 : decode cX8_bringsHome 115 = .ok (.iinc 6 1, 3) := by decide +kernel
theorem dX8_bringsHome_118 : decode cX8_bringsHome 118 = .ok (.goto (-78), 3) := by decide +kernel
theorem dX8_bringsHome_121 : decode cX8_bringsHome 121 = .ok (.aload_n 0, 1) := by decide +kernel
theorem dX8_bringsHome_122 : decode cX8_bringsHome 122 = .ok (.getfield 19, 3) := by decide +kernel
theorem dX8_bringsHome_125 : decode cX8_bringsHome 125 = .ok (.invokestatic 95, 3) := by decide +kernel
theorem dX8_bringsHome_128 : decode cX8_bringsHome 128 = .ok (.ireturn, 1) := by decide +kernel
theorem dX8_fewestRow_0 : decode cX8_fewestRow 0 = .ok (.iconst 1, 1) := by decide +kernel
theorem dX8_fewestRow_1 : decode cX8_fewestRow 1 = .ok (.istore_n 2, 1) := by decide +kernel
theorem dX8_fewestRow_2 : decode cX8_fewestRow 2 = .ok (.iconst 0, 1) := by decide +kernel
theorem dX8_fewestRow_3 : decode cX8_fewestRow 3 = .ok (.istore_n 3, 1) := by decide +kernel
theorem dX8_fewestRow_4 : decode cX8_fewestRow 4 = .ok (.iload_n 3, 1) := by decide +kernel
theorem dX8_fewestRow_5 : decode cX8_fewestRow 5 = .ok (.iconst 5, 1) := by decide +kernel
theorem dX8_fewestRow_6 : decode cX8_fewestRow 6 = .ok (.if_icmp .gt 60, 3) := by decide +kernel
theorem dX8_fewestRow_9 : decode cX8_fewestRow 9 = .ok (.iconst 0, 1) := by decide +kernel
theorem dX8_fewestRow_10 : decode cX8_fewestRow 10 = .ok (.istore 4, 2) := by decide +kernel
theorem dX8_fewestRow_12 : decode cX8_fewestRow 12 = .ok (.iload 4, 2) := by decide +kernel
theorem dX8_fewestRow_14 : decode cX8_fewestRow 14 = .ok (.iload_n 2, 1) := by decide +kernel
theorem dX8_fewestRow_15 : decode cX8_fewestRow 15 = .ok (.if_icmp .ge 41, 3) := by decide +kernel
theorem dX8_fewestRow_18 : decode cX8_fewestRow 18 = .ok (.aload_n 0, 1) := by decide +kernel
theorem dX8_fewestRow_19 : decode cX8_fewestRow 19 = .ok (.aload_n 1, 1) := by decide +kernel
theorem dX8_fewestRow_20 : decode cX8_fewestRow 20 = .ok (.iload_n 3, 1) := by decide +kernel
theorem dX8_fewestRow_21 : decode cX8_fewestRow 21 = .ok (.iload 4, 2) := by decide +kernel
theorem dX8_fewestRow_23 : decode cX8_fewestRow 23 = .ok (.invokevirtual 99, 3) := by decide +kernel
theorem dX8_fewestRow_26 : decode cX8_fewestRow 26 = .ok (.ifCond .eq 24, 3) := by decide +kernel
theorem dX8_fewestRow_29 : decode cX8_fewestRow 29 = .ok (.sipush 10000, 3) := by decide +kernel
theorem dX8_fewestRow_32 : decode cX8_fewestRow 32 = .ok (.iload_n 3, 1) := by decide +kernel
theorem dX8_fewestRow_33 : decode cX8_fewestRow 33 = .ok (.imul, 1) := by decide +kernel
theorem dX8_fewestRow_34 : decode cX8_fewestRow 34 = .ok (.iload_n 3, 1) := by decide +kernel
theorem dX8_fewestRow_35 : decode cX8_fewestRow 35 = .ok (.ifCond .ne 7, 3) := by decide +kernel
theorem dX8_fewestRow_38 : decode cX8_fewestRow 38 = .ok (.iconst 0, 1) := by decide +kernel
theorem dX8_fewestRow_39 : decode cX8_fewestRow 39 = .ok (.goto 9, 3) := by decide +kernel
theorem dX8_fewestRow_42 : decode cX8_fewestRow 42 = .ok (.iload 4, 2) := by decide +kernel
theorem dX8_fewestRow_44 : decode cX8_fewestRow 44 = .ok (.iload_n 2, 1) := by decide +kernel
theorem dX8_fewestRow_45 : decode cX8_fewestRow 45 = .ok (.iconst 4, 1) := by decide +kernel
theorem dX8_fewestRow_46 : decode cX8_fewestRow 46 = .ok (.idiv, 1) := by decide +kernel
theorem dX8_fewestRow_47 : decode cX8_fewestRow 47 = .ok (.idiv, 1) := by decide +kernel
theorem dX8_fewestRow_48 : decode cX8_fewestRow 48 = .ok (.iadd, 1) := by decide +kernel
theorem dX8_fewestRow_49 : decode cX8_fewestRow 49 = .ok (.ireturn, 1) := by decide +kernel
theorem dX8_fewestRow_50 : decode cX8_fewestRow 50 = .ok (.iinc 4 1, 3) := by decide +kernel
theorem dX8_fewestRow_53 : decode cX8_fewestRow 53 = .ok (.goto (-41), 3) := by decide +kernel
theorem dX8_fewestRow_56 : decode cX8_fewestRow 56 = .ok (.iload_n 2, 1) := by decide +kernel
theorem dX8_fewestRow_57 : decode cX8_fewestRow 57 = .ok (.iconst 4, 1) := by decide +kernel
theorem dX8_fewestRow_58 : decode cX8_fewestRow 58 = .ok (.imul, 1) := by decide +kernel
theorem dX8_fewestRow_59 : decode cX8_fewestRow 59 = .ok (.istore_n 2, 1) := by decide +kernel
theorem dX8_fewestRow_60 : decode cX8_fewestRow 60 = .ok (.iinc 3 1, 3) := by decide +kernel
theorem dX8_fewestRow_63 : decode cX8_fewestRow 63 = .ok (.goto (-59), 3) := by decide +kernel
theorem dX8_fewestRow_66 : decode cX8_fewestRow 66 = .ok (.iconst (-1), 1) := by decide +kernel
theorem dX8_fewestRow_67 : decode cX8_fewestRow 67 = .ok (.ireturn, 1) := by decide +kernel
theorem dX8_bestOf_0 : decode cX8_bestOf 0 = .ok (.iload_n 0, 1) := by decide +kernel
theorem dX8_bestOf_1 : decode cX8_bestOf 1 = .ok (.iconst (-1), 1) := by decide +kernel
theorem dX8_bestOf_2 : decode cX8_bestOf 2 = .ok (.if_icmp .eq 10, 3) := by decide +kernel
theorem dX8_bestOf_5 : decode cX8_bestOf 5 = .ok (.iload_n 0, 1) := by decide +kernel
theorem dX8_bestOf_6 : decode cX8_bestOf 6 = .ok (.sipush 10000, 3) := by decide +kernel
theorem dX8_bestOf_9 : decode cX8_bestOf 9 = .ok (.if_icmp .ge 7, 3) := by decide +kernel
theorem dX8_bestOf_12 : decode cX8_bestOf 12 = .ok (.iconst (-1), 1) := by decide +kernel
theorem dX8_bestOf_13 : decode cX8_bestOf 13 = .ok (.goto 8, 3) := by decide +kernel
theorem dX8_bestOf_16 : decode cX8_bestOf 16 = .ok (.iload_n 0, 1) := by decide +kernel
theorem dX8_bestOf_17 : decode cX8_bestOf 17 = .ok (.sipush 10000, 3) := by decide +kernel
theorem dX8_bestOf_20 : decode cX8_bestOf 20 = .ok (.irem, 1) := by decide +kernel
theorem dX8_bestOf_21 : decode cX8_bestOf 21 = .ok (.ireturn, 1) := by decide +kernel
theorem dX8_append_0 : decode cX8_append 0 = .ok (.aload_n 0, 1) := by decide +kernel
theorem dX8_append_1 : decode cX8_append 1 = .ok (.iload_n 1, 1) := by decide +kernel
theorem dX8_append_2 : decode cX8_append 2 = .ok (.i2l, 1) := by decide +kernel
theorem dX8_append_3 : decode cX8_append 3 = .ok (.lconst 0, 1) := by decide +kernel
theorem dX8_append_4 : decode cX8_append 4 = .ok (.ldc2_w 103, 3) := by decide +kernel
theorem dX8_append_7 : decode cX8_append 7 = .ok (.invokestatic 40, 3) := by decide +kernel
theorem dX8_append_10 : decode cX8_append 10 = .ok (.ifCond .ne 7, 3) := by decide +kernel
theorem dX8_append_13 : decode cX8_append 13 = .ok (.iconst 1, 1) := by decide +kernel
theorem dX8_append_14 : decode cX8_append 14 = .ok (.goto 17, 3) := by decide +kernel
theorem dX8_append_17 : decode cX8_append 17 = .ok (.aload_n 0, 1) := by decide +kernel
theorem dX8_append_18 : decode cX8_append 18 = .ok (.getfield 105, 3) := by decide +kernel
theorem dX8_append_21 : decode cX8_append 21 = .ok (.bipush 120, 2) := by decide +kernel
theorem dX8_append_23 : decode cX8_append 23 = .ok (.if_icmp .ne 7, 3) := by decide +kernel
theorem dX8_append_26 : decode cX8_append 26 = .ok (.iconst 2, 1) := by decide +kernel
theorem dX8_append_27 : decode cX8_append 27 = .ok (.goto 4, 3) := by decide +kernel
theorem dX8_append_30 : decode cX8_append 30 = .ok (.iconst 0, 1) := by decide +kernel
theorem dX8_append_31 : decode cX8_append 31 = .ok (.invokevirtual 108, 3) := by decide +kernel
theorem dX8_append_34 : decode cX8_append 34 = .ok (.ifCond .eq 5, 3) := by decide +kernel
theorem dX8_append_37 : decode cX8_append 37 = .ok (.iconst 0, 1) := by decide +kernel
theorem dX8_append_38 : decode cX8_append 38 = .ok (.ireturn, 1) := by decide +kernel
theorem dX8_append_39 : decode cX8_append 39 = .ok (.aload_n 0, 1) := by decide +kernel
theorem dX8_append_40 : decode cX8_append 40 = .ok (.getfield 7, 3) := by decide +kernel
theorem dX8_append_43 : decode cX8_append 43 = .ok (.aload_n 0, 1) := by decide +kernel
theorem dX8_append_44 : decode cX8_append 44 = .ok (.getfield 105, 3) := by decide +kernel
theorem dX8_append_47 : decode cX8_append 47 = .ok (.iload_n 1, 1) := by decide +kernel
theorem dX8_append_48 : decode cX8_append 48 = .ok (.iastore, 1) := by decide +kernel
theorem dX8_append_49 : decode cX8_append 49 = .ok (.aload_n 0, 1) := by decide +kernel
theorem dX8_append_50 : decode cX8_append 50 = .ok (.dup, 1) := by decide +kernel
theorem dX8_append_51 : decode cX8_append 51 = .ok (.getfield 105, 3) := by decide +kernel
theorem dX8_append_54 : decode cX8_append 54 = .ok (.iconst 1, 1) := by decide +kernel
theorem dX8_append_55 : decode cX8_append 55 = .ok (.iadd, 1) := by decide +kernel
theorem dX8_append_56 : decode cX8_append 56 = .ok (.putfield 105, 3) := by decide +kernel
theorem dX8_append_59 : decode cX8_append 59 = .ok (.aload_n 0, 1) := by decide +kernel
theorem dX8_append_60 : decode cX8_append 60 = .ok (.getfield 105, 3) := by decide +kernel
theorem dX8_append_63 : decode cX8_append 63 = .ok (.ireturn, 1) := by decide +kernel
theorem dX8_clearText_0 : decode cX8_clearText 0 = .ok (.aload_n 0, 1) := by decide +kernel
theorem dX8_clearText_1 : decode cX8_clearText 1 = .ok (.iconst 0, 1) := by decide +kernel
theorem dX8_clearText_2 : decode cX8_clearText 2 = .ok (.putfield 36, 3) := by decide +kernel
theorem dX8_clearText_5 : decode cX8_clearText 5 = .ok (.aload_n 0, 1) := by decide +kernel
theorem dX8_clearText_6 : decode cX8_clearText 6 = .ok (.getfield 105, 3) := by decide +kernel
theorem dX8_clearText_9 : decode cX8_clearText 9 = .ok (.istore_n 1, 1) := by decide +kernel
theorem dX8_clearText_10 : decode cX8_clearText 10 = .ok (.aload_n 0, 1) := by decide +kernel
theorem dX8_clearText_11 : decode cX8_clearText 11 = .ok (.iconst 0, 1) := by decide +kernel
theorem dX8_clearText_12 : decode cX8_clearText 12 = .ok (.putfield 105, 3) := by decide +kernel
theorem dX8_clearText_15 : decode cX8_clearText 15 = .ok (.iload_n 1, 1) := by decide +kernel
theorem dX8_clearText_16 : decode cX8_clearText 16 = .ok (.ireturn, 1) := by decide +kernel
theorem dX8_figures_0 : decode cX8_figures 0 = .ok (.iconst 0, 1) := by decide +kernel
theorem dX8_figures_1 : decode cX8_figures 1 = .ok (.istore 5, 2) := by decide +kernel
theorem dX8_figures_3 : decode cX8_figures 3 = .ok (.iload_n 2, 1) := by decide +kernel
theorem dX8_figures_4 : decode cX8_figures 4 = .ok (.iconst 2, 1) := by decide +kernel
theorem dX8_figures_5 : decode cX8_figures 5 = .ok (.if_icmp .ne 8, 3) := by decide +kernel
theorem dX8_figures_8 : decode cX8_figures 8 = .ok (.bipush 10, 2) := by decide +kernel
theorem dX8_figures_10 : decode cX8_figures 10 = .ok (.goto 4, 3) := by decide +kernel
theorem dX8_figures_13 : decode cX8_figures 13 = .ok (.iconst 1, 1) := by decide +kernel
theorem dX8_figures_14 : decode cX8_figures 14 = .ok (.istore 6, 2) := by decide +kernel
theorem dX8_figures_16 : decode cX8_figures 16 = .ok (.iload 6, 2) := by decide +kernel
theorem dX8_figures_18 : decode cX8_figures 18 = .ok (.ifCond .le 104, 3) := by decide +kernel
theorem dX8_figures_21 : decode cX8_figures 21 = .ok (.iload_n 1, 1) := by decide +kernel
theorem dX8_figures_22 : decode cX8_figures 22 = .ok (.iconst (-1), 1) := by decide +kernel
theorem dX8_figures_23 : decode cX8_figures 23 = .ok (.if_icmp .eq 99, 3) := by decide +kernel
theorem dX8_figures_26 : decode cX8_figures 26 = .ok (.aload_n 0, 1) := by decide +kernel
theorem dX8_figures_27 : decode cX8_figures 27 = .ok (.getfield 112, 3) := by decide +kernel
theorem dX8_figures_30 : decode cX8_figures 30 = .ok (.aload_n 0, 1) := by decide +kernel
theorem dX8_figures_31 : decode cX8_figures 31 = .ok (.getfield 105, 3) := by decide +kernel
theorem dX8_figures_34 : decode cX8_figures 34 = .ok (.if_icmp .ge 18, 3) := by decide +kernel
theorem dX8_figures_37 : decode cX8_figures 37 = .ok (.aload_n 0, 1) := by decide +kernel
theorem dX8_figures_38 : decode cX8_figures 38 = .ok (.getfield 7, 3) := by decide +kernel
theorem dX8_figures_41 : decode cX8_figures 41 = .ok (.aload_n 0, 1) := by decide +kernel
theorem dX8_figures_42 : decode cX8_figures 42 = .ok (.getfield 112, 3) := by decide +kernel
theorem dX8_figures_45 : decode cX8_figures 45 = .ok (.iaload, 1) := by decide +kernel
theorem dX8_figures_46 : decode cX8_figures 46 = .ok (.bipush 48, 2) := by decide +kernel
theorem dX8_figures_48 : decode cX8_figures 48 = .ok (.isub, 1) := by decide +kernel
theorem dX8_figures_49 : decode cX8_figures 49 = .ok (.goto 4, 3) := by decide +kernel
theorem dX8_figures_52 : decode cX8_figures 52 = .ok (.iconst (-1), 1) := by decide +kernel
theorem dX8_figures_53 : decode cX8_figures 53 = .ok (.istore 7, 2) := by decide +kernel
theorem dX8_figures_55 : decode cX8_figures 55 = .ok (.iload 5, 2) := by decide +kernel
theorem dX8_figures_57 : decode cX8_figures 57 = .ok (.iload 7, 2) := by decide +kernel
theorem dX8_figures_59 : decode cX8_figures 59 = .ok (.iload 6, 2) := by decide +kernel
theorem dX8_figures_61 : decode cX8_figures 61 = .ok (.imul, 1) := by decide +kernel
theorem dX8_figures_62 : decode cX8_figures 62 = .ok (.iadd, 1) := by decide +kernel
theorem dX8_figures_63 : decode cX8_figures 63 = .ok (.istore 8, 2) := by decide +kernel
theorem dX8_figures_65 : decode cX8_figures 65 = .ok (.iload 7, 2) := by decide +kernel
theorem dX8_figures_67 : decode cX8_figures 67 = .ok (.i2l, 1) := by decide +kernel
theorem dX8_figures_68 : decode cX8_figures 68 = .ok (.lconst 0, 1) := by decide +kernel
theorem dX8_figures_69 : decode cX8_figures 69 = .ok (.ldc2_w 50, 3) := by decide +kernel
theorem dX8_figures_72 : decode cX8_figures 72 = .ok (.invokestatic 40, 3) := by decide +kernel
theorem dX8_figures_75 : decode cX8_figures 75 = .ok (.ifCond .eq 21, 3) := by decide +kernel
theorem dX8_figures_78 : decode cX8_figures 78 = .ok (.iload 8, 2) := by decide +kernel
theorem dX8_figures_80 : decode cX8_figures 80 = .ok (.iload 4, 2) := by decide +kernel
theorem dX8_figures_82 : decode cX8_figures 82 = .ok (.if_icmp .gt 14, 3) := by decide +kernel
theorem dX8_figures_85 : decode cX8_figures 85 = .ok (.iload 8, 2) := by decide +kernel
theorem dX8_figures_87 : decode cX8_figures 87 = .ok (.iload 6, 2) := by decide +kernel
theorem dX8_figures_89 : decode cX8_figures 89 = .ok (.iadd, 1) := by decide +kernel
theorem dX8_figures_90 : decode cX8_figures 90 = .ok (.iconst 1, 1) := by decide +kernel
theorem dX8_figures_91 : decode cX8_figures 91 = .ok (.isub, 1) := by decide +kernel
theorem dX8_figures_92 : decode cX8_figures 92 = .ok (.iload_n 3, 1) := by decide +kernel
theorem dX8_figures_93 : decode cX8_figures 93 = .ok (.if_icmp .ge 5, 3) := by decide +kernel
theorem dX8_figures_96 : decode cX8_figures 96 = .ok (.iconst (-1), 1) := by decide +kernel
theorem dX8_figures_97 : decode cX8_figures 97 = .ok (.ireturn, 1) := by decide +kernel
theorem dX8_figures_98 : decode cX8_figures 98 = .ok (.iload 8, 2) := by decide +kernel
theorem dX8_figures_100 : decode cX8_figures 100 = .ok (.istore 5, 2) := by decide +kernel
theorem dX8_figures_102 : decode cX8_figures 102 = .ok (.aload_n 0, 1) := by decide +kernel
theorem dX8_figures_103 : decode cX8_figures 103 = .ok (.dup, 1) := by decide +kernel
theorem dX8_figures_104 : decode cX8_figures 104 = .ok (.getfield 112, 3) := by decide +kernel
theorem dX8_figures_107 : decode cX8_figures 107 = .ok (.iconst 1, 1) := by decide +kernel
theorem dX8_figures_108 : decode cX8_figures 108 = .ok (.iadd, 1) := by decide +kernel
theorem dX8_figures_109 : decode cX8_figures 109 = .ok (.putfield 112, 3) := by decide +kernel
theorem dX8_figures_112 : decode cX8_figures 112 = .ok (.iload 6, 2) := by decide +kernel
theorem dX8_figures_114 : decode cX8_figures 114 = .ok (.bipush 10, 2) := by decide +kernel
theorem dX8_figures_116 : decode cX8_figures 116 = .ok (.idiv, 1) := by decide +kernel
theorem dX8_figures_117 : decode cX8_figures 117 = .ok (.istore 6, 2) := by decide +kernel
theorem dX8_figures_119 : decode cX8_figures 119 = .ok (.goto (-103), 3) := by decide +kernel
theorem dX8_figures_122 : decode cX8_figures 122 = .ok (.iload_n 1, 1) := by decide +kernel
theorem dX8_figures_123 : decode cX8_figures 123 = .ok (.iconst (-1), 1) := by decide +kernel
theorem dX8_figures_124 : decode cX8_figures 124 = .ok (.if_icmp .ne 7, 3) := by decide +kernel
theorem dX8_figures_127 : decode cX8_figures 127 = .ok (.iconst (-1), 1) := by decide +kernel
theorem dX8_figures_128 : decode cX8_figures 128 = .ok (.goto 5, 3) := by decide +kernel
theorem dX8_figures_131 : decode cX8_figures 131 = .ok (.iload 5, 2) := by decide +kernel
theorem dX8_figures_133 : decode cX8_figures 133 = .ok (.ireturn, 1) := by decide +kernel
theorem dX8_done_0 : decode cX8_done 0 = .ok (.aload_n 0, 1) := by decide +kernel
theorem dX8_done_1 : decode cX8_done 1 = .ok (.dup, 1) := by decide +kernel
theorem dX8_done_2 : decode cX8_done 2 = .ok (.getfield 115, 3) := by decide +kernel
theorem dX8_done_5 : decode cX8_done 5 = .ok (.iload_n 1, 1) := by decide +kernel
theorem dX8_done_6 : decode cX8_done 6 = .ok (.ifCond .eq 7, 3) := by decide +kernel
theorem dX8_done_9 : decode cX8_done 9 = .ok (.iconst 0, 1) := by decide +kernel
theorem dX8_done_10 : decode cX8_done 10 = .ok (.goto 4, 3) := by decide +kernel
theorem dX8_done_13 : decode cX8_done 13 = .ok (.iconst 1, 1) := by decide +kernel
theorem dX8_done_14 : decode cX8_done 14 = .ok (.iadd, 1) := by decide +kernel
theorem dX8_done_15 : decode cX8_done 15 = .ok (.putfield 115, 3) := by decide +kernel
theorem dX8_done_18 : decode cX8_done 18 = .ok (.iconst 1, 1) := by decide +kernel
theorem dX8_done_19 : decode cX8_done 19 = .ok (.ireturn, 1) := by decide +kernel
theorem dX8_readGuest_0 : decode cX8_readGuest 0 = .ok (.aload_n 0, 1) := by decide +kernel
theorem dX8_readGuest_1 : decode cX8_readGuest 1 = .ok (.iconst 0, 1) := by decide +kernel
theorem dX8_readGuest_2 : decode cX8_readGuest 2 = .ok (.iconst 1, 1) := by decide +kernel
theorem dX8_readGuest_3 : decode cX8_readGuest 3 = .ok (.iconst 0, 1) := by decide +kernel
theorem dX8_readGuest_4 : decode cX8_readGuest 4 = .ok (.bipush 6, 2) := by decide +kernel
theorem dX8_readGuest_6 : decode cX8_readGuest 6 = .ok (.invokevirtual 118, 3) := by decide +kernel
theorem dX8_readGuest_9 : decode cX8_readGuest 9 = .ok (.istore_n 2, 1) := by decide +kernel
theorem dX8_readGuest_10 : decode cX8_readGuest 10 = .ok (.aload_n 0, 1) := by decide +kernel
theorem dX8_readGuest_11 : decode cX8_readGuest 11 = .ok (.iload_n 2, 1) := by decide +kernel
theorem dX8_readGuest_12 : decode cX8_readGuest 12 = .ok (.iconst 1, 1) := by decide +kernel
theorem dX8_readGuest_13 : decode cX8_readGuest 13 = .ok (.iconst 0, 1) := by decide +kernel
theorem dX8_readGuest_14 : decode cX8_readGuest 14 = .ok (.bipush 6, 2) := by decide +kernel
theorem dX8_readGuest_16 : decode cX8_readGuest 16 = .ok (.invokevirtual 118, 3) := by decide +kernel
theorem dX8_readGuest_19 : decode cX8_readGuest 19 = .ok (.istore_n 3, 1) := by decide +kernel
theorem dX8_readGuest_20 : decode cX8_readGuest 20 = .ok (.aload_n 0, 1) := by decide +kernel
theorem dX8_readGuest_21 : decode cX8_readGuest 21 = .ok (.iload_n 3, 1) := by decide +kernel
theorem dX8_readGuest_22 : decode cX8_readGuest 22 = .ok (.iconst 1, 1) := by decide +kernel
theorem dX8_readGuest_23 : decode cX8_readGuest 23 = .ok (.iconst 0, 1) := by decide +kernel
theorem dX8_readGuest_24 : decode cX8_readGuest 24 = .ok (.bipush 6, 2) := by decide +kernel
theorem dX8_readGuest_26 : decode cX8_readGuest 26 = .ok (.invokevirtual 118, 3) := by decide +kernel
theorem dX8_readGuest_29 : decode cX8_readGuest 29 = .ok (.istore 4, 2) := by decide +kernel
theorem dX8_readGuest_31 : decode cX8_readGuest 31 = .ok (.aload_n 0, 1) := by decide +kernel
theorem dX8_readGuest_32 : decode cX8_readGuest 32 = .ok (.iload 4, 2) := by decide +kernel
theorem dX8_readGuest_34 : decode cX8_readGuest 34 = .ok (.iconst 1, 1) := by decide +kernel
theorem dX8_readGuest_35 : decode cX8_readGuest 35 = .ok (.iconst 1, 1) := by decide +kernel
theorem dX8_readGuest_36 : decode cX8_readGuest 36 = .ok (.iconst 4, 1) := by decide +kernel
theorem dX8_readGuest_37 : decode cX8_readGuest 37 = .ok (.invokevirtual 118, 3) := by decide +kernel
theorem dX8_readGuest_40 : decode cX8_readGuest 40 = .ok (.istore 5, 2) := by decide +kernel
theorem dX8_readGuest_42 : decode cX8_readGuest 42 = .ok (.iload 5, 2) := by decide +kernel
theorem dX8_readGuest_44 : decode cX8_readGuest 44 = .ok (.iconst (-1), 1) := by decide +kernel
theorem dX8_readGuest_45 : decode cX8_readGuest 45 = .ok (.if_icmp .eq 39, 3) := by decide +kernel
theorem dX8_readGuest_48 : decode cX8_readGuest 48 = .ok (.aload_n 0, 1) := by decide +kernel
theorem dX8_readGuest_49 : decode cX8_readGuest 49 = .ok (.aload_n 1, 1) := by decide +kernel
theorem dX8_readGuest_50 : decode cX8_readGuest 50 = .ok (.iconst 0, 1) := by decide +kernel
theorem dX8_readGuest_51 : decode cX8_readGuest 51 = .ok (.iaload, 1) := by decide +kernel
theorem dX8_readGuest_52 : decode cX8_readGuest 52 = .ok (.iconst 4, 1) := by decide +kernel
theorem dX8_readGuest_53 : decode cX8_readGuest 53 = .ok (.if_icmp .ge 20, 3) := by decide +kernel
theorem dX8_readGuest_56 : decode cX8_readGuest 56 = .ok (.aload_n 1, 1) := by decide +kernel
theorem dX8_readGuest_57 : decode cX8_readGuest 57 = .ok (.iload_n 2, 1) := by decide +kernel
theorem dX8_readGuest_58 : decode cX8_readGuest 58 = .ok (.iload_n 3, 1) := by decide +kernel
theorem dX8_readGuest_59 : decode cX8_readGuest 59 = .ok (.iload 4, 2) := by decide +kernel
theorem dX8_readGuest_61 : decode cX8_readGuest 61 = .ok (.iload 5, 2) := by decide +kernel
theorem dX8_readGuest_63 : decode cX8_readGuest 63 = .ok (.invokestatic 122, 3) := by decide +kernel
theorem dX8_readGuest_66 : decode cX8_readGuest 66 = .ok (.ifCond .lt 7, 3) := by decide +kernel
theorem dX8_readGuest_69 : decode cX8_readGuest 69 = .ok (.iconst 1, 1) := by decide +kernel
theorem dX8_readGuest_70 : decode cX8_readGuest 70 = .ok (.goto 4, 3) := by decide +kernel
theorem dX8_readGuest_73 : decode cX8_readGuest 73 = .ok (.iconst 0, 1) := by decide +kernel
theorem dX8_readGuest_74 : decode cX8_readGuest 74 = .ok (.invokevirtual 126, 3) := by decide +kernel
theorem dX8_readGuest_77 : decode cX8_readGuest 77 = .ok (.ifCond .eq 7, 3) := by decide +kernel
theorem dX8_readGuest_80 : decode cX8_readGuest 80 = .ok (.iconst 1, 1) := by decide +kernel
theorem dX8_readGuest_81 : decode cX8_readGuest 81 = .ok (.goto 4, 3) := by decide +kernel
theorem dX8_readGuest_84 : decode cX8_readGuest 84 = .ok (.iconst 0, 1) := by decide +kernel
theorem dX8_readGuest_85 : decode cX8_readGuest 85 = .ok (.ireturn, 1) := by decide +kernel
theorem dX8_readCommand_0 : decode cX8_readCommand 0 = .ok (.aload_n 0, 1) := by decide +kernel
theorem dX8_readCommand_1 : decode cX8_readCommand 1 = .ok (.getfield 7, 3) := by decide +kernel
theorem dX8_readCommand_4 : decode cX8_readCommand 4 = .ok (.aload_n 0, 1) := by decide +kernel
theorem dX8_readCommand_5 : decode cX8_readCommand 5 = .ok (.getfield 112, 3) := by decide +kernel
theorem dX8_readCommand_8 : decode cX8_readCommand 8 = .ok (.iaload, 1) := by decide +kernel
theorem dX8_readCommand_9 : decode cX8_readCommand 9 = .ok (.istore_n 2, 1) := by decide +kernel
theorem dX8_readCommand_10 : decode cX8_readCommand 10 = .ok (.aload_n 0, 1) := by decide +kernel
theorem dX8_readCommand_11 : decode cX8_readCommand 11 = .ok (.dup, 1) := by decide +kernel
theorem dX8_readCommand_12 : decode cX8_readCommand 12 = .ok (.getfield 112, 3) := by decide +kernel
theorem dX8_readCommand_15 : decode cX8_readCommand 15 = .ok (.iconst 1, 1) := by decide +kernel
theorem dX8_readCommand_16 : decode cX8_readCommand 16 = .ok (.iadd, 1) := by decide +kernel
theorem dX8_readCommand_17 : decode cX8_readCommand 17 = .ok (.putfield 112, 3) := by decide +kernel
theorem dX8_readCommand_20 : decode cX8_readCommand 20 = .ok (.iload_n 2, 1) := by decide +kernel
theorem dX8_readCommand_21 : decode cX8_readCommand 21 = .ok (.tableswitch 295 98 114 #[273, 295, 295, 210, 295, 83, 295, 295, 295, 295, 162, 295, 295, 295, 89, 295, 145], 83) := by decide +kernel
theorem dX8_readCommand_104 : decode cX8_readCommand 104 = .ok (.aload_n 0, 1) := by decide +kernel
theorem dX8_readCommand_105 : decode cX8_readCommand 105 = .ok (.aload_n 1, 1) := by decide +kernel
theorem dX8_readCommand_106 : decode cX8_readCommand 106 = .ok (.invokevirtual 130, 3) := by decide +kernel
theorem dX8_readCommand_109 : decode cX8_readCommand 109 = .ok (.ireturn, 1) := by decide +kernel
theorem dX8_readCommand_110 : decode cX8_readCommand 110 = .ok (.aload_n 0, 1) := by decide +kernel
theorem dX8_readCommand_111 : decode cX8_readCommand 111 = .ok (.iconst 0, 1) := by decide +kernel
theorem dX8_readCommand_112 : decode cX8_readCommand 112 = .ok (.iconst 1, 1) := by decide +kernel
theorem dX8_readCommand_113 : decode cX8_readCommand 113 = .ok (.iconst 0, 1) := by decide +kernel
theorem dX8_readCommand_114 : decode cX8_readCommand 114 = .ok (.iconst 3, 1) := by decide +kernel
theorem dX8_readCommand_115 : decode cX8_readCommand 115 = .ok (.invokevirtual 118, 3) := by decide +kernel
theorem dX8_readCommand_118 : decode cX8_readCommand 118 = .ok (.istore_n 3, 1) := by decide +kernel
theorem dX8_readCommand_119 : decode cX8_readCommand 119 = .ok (.iload_n 3, 1) := by decide +kernel
theorem dX8_readCommand_120 : decode cX8_readCommand 120 = .ok (.iconst (-1), 1) := by decide +kernel
theorem dX8_readCommand_121 : decode cX8_readCommand 121 = .ok (.if_icmp .eq 43, 3) := by decide +kernel
theorem dX8_readCommand_124 : decode cX8_readCommand 124 = .ok (.aload_n 0, 1) := by decide +kernel
theorem dX8_readCommand_125 : decode cX8_readCommand 125 = .ok (.aload_n 1, 1) := by decide +kernel
theorem dX8_readCommand_126 : decode cX8_readCommand 126 = .ok (.iload_n 3, 1) := by decide +kernel
theorem dX8_readCommand_127 : decode cX8_readCommand 127 = .ok (.invokestatic 91, 3) := by decide +kernel
theorem dX8_readCommand_130 : decode cX8_readCommand 130 = .ok (.ifCond .eq 23, 3) := by decide +kernel
theorem dX8_readCommand_133 : decode cX8_readCommand 133 = .ok (.aload_n 1, 1) := by decide +kernel
theorem dX8_readCommand_134 : decode cX8_readCommand 134 = .ok (.iload_n 3, 1) := by decide +kernel
theorem dX8_readCommand_135 : decode cX8_readCommand 135 = .ok (.invokestatic 74, 3) := by decide +kernel
theorem dX8_readCommand_138 : decode cX8_readCommand 138 = .ok (.ifCond .ne 15, 3) := by decide +kernel
theorem dX8_readCommand_141 : decode cX8_readCommand 141 = .ok (.aload_n 1, 1) := by decide +kernel
theorem dX8_readCommand_142 : decode cX8_readCommand 142 = .ok (.iload_n 3, 1) := by decide +kernel
theorem dX8_readCommand_143 : decode cX8_readCommand 143 = .ok (.invokestatic 133, 3) := by decide +kernel
theorem dX8_readCommand_146 : decode cX8_readCommand 146 = .ok (.ifCond .ne 7, 3) := by decide +kernel
theorem dX8_readCommand_149 : decode cX8_readCommand 149 = .ok (.iconst 1, 1) := by decide +kernel
theorem dX8_readCommand_150 : decode cX8_readCommand 150 = .ok (.goto 4, 3) := by decide +kernel
theorem dX8_readCommand_153 : decode cX8_readCommand 153 = .ok (.iconst 0, 1) := by decide +kernel
theorem dX8_readCommand_154 : decode cX8_readCommand 154 = .ok (.invokevirtual 126, 3) := by decide +kernel
theorem dX8_readCommand_157 : decode cX8_readCommand 157 = .ok (.ifCond .eq 7, 3) := by decide +kernel
theorem dX8_readCommand_160 : decode cX8_readCommand 160 = .ok (.iconst 1, 1) := by decide +kernel
theorem dX8_readCommand_161 : decode cX8_readCommand 161 = .ok (.goto 4, 3) := by decide +kernel
theorem dX8_readCommand_164 : decode cX8_readCommand 164 = .ok (.iconst 0, 1) := by decide +kernel
theorem dX8_readCommand_165 : decode cX8_readCommand 165 = .ok (.ireturn, 1) := by decide +kernel
theorem dX8_readCommand_166 : decode cX8_readCommand 166 = .ok (.aload_n 0, 1) := by decide +kernel
theorem dX8_readCommand_167 : decode cX8_readCommand 167 = .ok (.aload_n 1, 1) := by decide +kernel
theorem dX8_readCommand_168 : decode cX8_readCommand 168 = .ok (.invokestatic 136, 3) := by decide +kernel
theorem dX8_readCommand_171 : decode cX8_readCommand 171 = .ok (.ifCond .lt 7, 3) := by decide +kernel
theorem dX8_readCommand_174 : decode cX8_readCommand 174 = .ok (.iconst 1, 1) := by decide +kernel
theorem dX8_readCommand_175 : decode cX8_readCommand 175 = .ok (.goto 4, 3) := by decide +kernel
theorem dX8_readCommand_178 : decode cX8_readCommand 178 = .ok (.iconst 0, 1) := by decide +kernel
theorem dX8_readCommand_179 : decode cX8_readCommand 179 = .ok (.invokevirtual 126, 3) := by decide +kernel
theorem dX8_readCommand_182 : decode cX8_readCommand 182 = .ok (.ireturn, 1) := by decide +kernel
theorem dX8_readCommand_183 : decode cX8_readCommand 183 = .ok (.aload_n 0, 1) := by decide +kernel
theorem dX8_readCommand_184 : decode cX8_readCommand 184 = .ok (.iconst 0, 1) := by decide +kernel
theorem dX8_readCommand_185 : decode cX8_readCommand 185 = .ok (.iconst 1, 1) := by decide +kernel
theorem dX8_readCommand_186 : decode cX8_readCommand 186 = .ok (.iconst 0, 1) := by decide +kernel
theorem dX8_readCommand_187 : decode cX8_readCommand 187 = .ok (.iconst 3, 1) := by decide +kernel
theorem dX8_readCommand_188 : decode cX8_readCommand 188 = .ok (.invokevirtual 118, 3) := by decide +kernel
theorem dX8_readCommand_191 : decode cX8_readCommand 191 = .ok (.istore_n 3, 1) := by decide +kernel
theorem dX8_readCommand_192 : decode cX8_readCommand 192 = .ok (.iload_n 3, 1) := by decide +kernel
theorem dX8_readCommand_193 : decode cX8_readCommand 193 = .ok (.iconst (-1), 1) := by decide +kernel
theorem dX8_readCommand_194 : decode cX8_readCommand 194 = .ok (.if_icmp .eq 35, 3) := by decide +kernel
theorem dX8_readCommand_197 : decode cX8_readCommand 197 = .ok (.aload_n 0, 1) := by decide +kernel
theorem dX8_readCommand_198 : decode cX8_readCommand 198 = .ok (.aload_n 1, 1) := by decide +kernel
theorem dX8_readCommand_199 : decode cX8_readCommand 199 = .ok (.iload_n 3, 1) := by decide +kernel
theorem dX8_readCommand_200 : decode cX8_readCommand 200 = .ok (.invokestatic 91, 3) := by decide +kernel
theorem dX8_readCommand_203 : decode cX8_readCommand 203 = .ok (.ifCond .eq 15, 3) := by decide +kernel
theorem dX8_readCommand_206 : decode cX8_readCommand 206 = .ok (.aload_n 1, 1) := by decide +kernel
theorem dX8_readCommand_207 : decode cX8_readCommand 207 = .ok (.iload_n 3, 1) := by decide +kernel
theorem dX8_readCommand_208 : decode cX8_readCommand 208 = .ok (.invokestatic 139, 3) := by decide +kernel
theorem dX8_readCommand_211 : decode cX8_readCommand 211 = .ok (.ifCond .lt 7, 3) := by decide +kernel
theorem dX8_readCommand_214 : decode cX8_readCommand 214 = .ok (.iconst 1, 1) := by decide +kernel
theorem dX8_readCommand_215 : decode cX8_readCommand 215 = .ok (.goto 4, 3) := by decide +kernel
theorem dX8_readCommand_218 : decode cX8_readCommand 218 = .ok (.iconst 0, 1) := by decide +kernel
theorem dX8_readCommand_219 : decode cX8_readCommand 219 = .ok (.invokevirtual 126, 3) := by decide +kernel
theorem dX8_readCommand_222 : decode cX8_readCommand 222 = .ok (.ifCond .eq 7, 3) := by decide +kernel
theorem dX8_readCommand_225 : decode cX8_readCommand 225 = .ok (.iconst 1, 1) := by decide +kernel
theorem dX8_readCommand_226 : decode cX8_readCommand 226 = .ok (.goto 4, 3) := by decide +kernel
theorem dX8_readCommand_229 : decode cX8_readCommand 229 = .ok (.iconst 0, 1) := by decide +kernel
theorem dX8_readCommand_230 : decode cX8_readCommand 230 = .ok (.ireturn, 1) := by decide +kernel
theorem dX8_readCommand_231 : decode cX8_readCommand 231 = .ok (.aload_n 0, 1) := by decide +kernel
theorem dX8_readCommand_232 : decode cX8_readCommand 232 = .ok (.iconst 0, 1) := by decide +kernel
theorem dX8_readCommand_233 : decode cX8_readCommand 233 = .ok (.iconst 1, 1) := by decide +kernel
theorem dX8_readCommand_234 : decode cX8_readCommand 234 = .ok (.iconst 0, 1) := by decide +kernel
theorem dX8_readCommand_235 : decode cX8_readCommand 235 = .ok (.iconst 2, 1) := by decide +kernel
theorem dX8_readCommand_236 : decode cX8_readCommand 236 = .ok (.invokevirtual 118, 3) := by decide +kernel
theorem dX8_readCommand_239 : decode cX8_readCommand 239 = .ok (.istore_n 3, 1) := by decide +kernel
theorem dX8_readCommand_240 : decode cX8_readCommand 240 = .ok (.aload_n 0, 1) := by decide +kernel
theorem dX8_readCommand_241 : decode cX8_readCommand 241 = .ok (.iload_n 3, 1) := by decide +kernel
theorem dX8_readCommand_242 : decode cX8_readCommand 242 = .ok (.iconst 2, 1) := by decide +kernel
theorem dX8_readCommand_243 : decode cX8_readCommand 243 = .ok (.iconst 0, 1) := by decide +kernel
theorem dX8_readCommand_244 : decode cX8_readCommand 244 = .ok (.bipush 16, 2) := by decide +kernel
theorem dX8_readCommand_246 : decode cX8_readCommand 246 = .ok (.invokevirtual 118, 3) := by decide +kernel
theorem dX8_readCommand_249 : decode cX8_readCommand 249 = .ok (.istore 4, 2) := by decide +kernel
theorem dX8_readCommand_251 : decode cX8_readCommand 251 = .ok (.iload 4, 2) := by decide +kernel
theorem dX8_readCommand_253 : decode cX8_readCommand 253 = .ok (.iconst (-1), 1) := by decide +kernel
theorem dX8_readCommand_254 : decode cX8_readCommand 254 = .ok (.if_icmp .eq 38, 3) := by decide +kernel
theorem dX8_readCommand_257 : decode cX8_readCommand 257 = .ok (.aload_n 0, 1) := by decide +kernel
theorem dX8_readCommand_258 : decode cX8_readCommand 258 = .ok (.iload_n 3, 1) := by decide +kernel
theorem dX8_readCommand_259 : decode cX8_readCommand 259 = .ok (.iload 4, 2) := by decide +kernel
theorem dX8_readCommand_261 : decode cX8_readCommand 261 = .ok (.invokestatic 142, 3) := by decide +kernel
theorem dX8_readCommand_264 : decode cX8_readCommand 264 = .ok (.ifCond .eq 17, 3) := by decide +kernel
theorem dX8_readCommand_267 : decode cX8_readCommand 267 = .ok (.aload_n 1, 1) := by decide +kernel
theorem dX8_readCommand_268 : decode cX8_readCommand 268 = .ok (.iload_n 3, 1) := by decide +kernel
theorem dX8_readCommand_269 : decode cX8_readCommand 269 = .ok (.iload 4, 2) := by decide +kernel
theorem dX8_readCommand_271 : decode cX8_readCommand 271 = .ok (.invokestatic 146, 3) := by decide +kernel
theorem dX8_readCommand_274 : decode cX8_readCommand 274 = .ok (.ifCond .lt 7, 3) := by decide +kernel
theorem dX8_readCommand_277 : decode cX8_readCommand 277 = .ok (.iconst 1, 1) := by decide +kernel
theorem dX8_readCommand_278 : decode cX8_readCommand 278 = .ok (.goto 4, 3) := by decide +kernel
theorem dX8_readCommand_281 : decode cX8_readCommand 281 = .ok (.iconst 0, 1) := by decide +kernel
theorem dX8_readCommand_282 : decode cX8_readCommand 282 = .ok (.invokevirtual 126, 3) := by decide +kernel
theorem dX8_readCommand_285 : decode cX8_readCommand 285 = .ok (.ifCond .eq 7, 3) := by decide +kernel
theorem dX8_readCommand_288 : decode cX8_readCommand 288 = .ok (.iconst 1, 1) := by decide +kernel
theorem dX8_readCommand_289 : decode cX8_readCommand 289 = .ok (.goto 4, 3) := by decide +kernel
theorem dX8_readCommand_292 : decode cX8_readCommand 292 = .ok (.iconst 0, 1) := by decide +kernel
theorem dX8_readCommand_293 : decode cX8_readCommand 293 = .ok (.ireturn, 1) := by decide +kernel
theorem dX8_readCommand_294 : decode cX8_readCommand 294 = .ok (.aload_n 0, 1) := by decide +kernel
theorem dX8_readCommand_295 : decode cX8_readCommand 295 = .ok (.aload_n 1, 1) := by decide +kernel
theorem dX8_readCommand_296 : decode cX8_readCommand 296 = .ok (.invokevirtual 149, 3) := by decide +kernel
theorem dX8_readCommand_299 : decode cX8_readCommand 299 = .ok (.invokestatic 152, 3) := by decide +kernel
theorem dX8_readCommand_302 : decode cX8_readCommand 302 = .ok (.istore_n 3, 1) := by decide +kernel
theorem dX8_readCommand_303 : decode cX8_readCommand 303 = .ok (.iload_n 3, 1) := by decide +kernel
theorem dX8_readCommand_304 : decode cX8_readCommand 304 = .ok (.iconst (-1), 1) := by decide +kernel
theorem dX8_readCommand_305 : decode cX8_readCommand 305 = .ok (.if_icmp .eq 9, 3) := by decide +kernel
theorem dX8_readCommand_308 : decode cX8_readCommand 308 = .ok (.aload_n 1, 1) := by decide +kernel
theorem dX8_readCommand_309 : decode cX8_readCommand 309 = .ok (.iload_n 3, 1) := by decide +kernel
theorem dX8_readCommand_310 : decode cX8_readCommand 310 = .ok (.invokestatic 133, 3) := by decide +kernel
theorem dX8_readCommand_313 : decode cX8_readCommand 313 = .ok (.pop, 1) := by decide +kernel
theorem dX8_readCommand_314 : decode cX8_readCommand 314 = .ok (.iconst 1, 1) := by decide +kernel
theorem dX8_readCommand_315 : decode cX8_readCommand 315 = .ok (.ireturn, 1) := by decide +kernel
theorem dX8_readCommand_316 : decode cX8_readCommand 316 = .ok (.aload_n 0, 1) := by decide +kernel
theorem dX8_readCommand_317 : decode cX8_readCommand 317 = .ok (.dup, 1) := by decide +kernel
theorem dX8_readCommand_318 : decode cX8_readCommand 318 = .ok (.getfield 112, 3) := by decide +kernel
theorem dX8_readCommand_321 : decode cX8_readCommand 321 = .ok (.iconst 1, 1) := by decide +kernel
theorem dX8_readCommand_322 : decode cX8_readCommand 322 = .ok (.isub, 1) := by decide +kernel
theorem dX8_readCommand_323 : decode cX8_readCommand 323 = .ok (.putfield 112, 3) := by decide +kernel
theorem dX8_readCommand_326 : decode cX8_readCommand 326 = .ok (.iconst 0, 1) := by decide +kernel
theorem dX8_readCommand_327 : decode cX8_readCommand 327 = .ok (.ireturn, 1) := by decide +kernel
theorem dX8_readText_0 : decode cX8_readText 0 = .ok (.aload_n 1, 1) := by decide +kernel
theorem dX8_readText_1 : decode cX8_readText 1 = .ok (.invokestatic 32, 3) := by decide +kernel
theorem dX8_readText_4 : decode cX8_readText 4 = .ok (.aload_n 0, 1) := by decide +kernel
theorem dX8_readText_5 : decode cX8_readText 5 = .ok (.iconst 0, 1) := by decide +kernel
theorem dX8_readText_6 : decode cX8_readText 6 = .ok (.putfield 115, 3) := by decide +kernel
theorem dX8_readText_9 : decode cX8_readText 9 = .ok (.aload_n 0, 1) := by decide +kernel
theorem dX8_readText_10 : decode cX8_readText 10 = .ok (.iconst 0, 1) := by decide +kernel
theorem dX8_readText_11 : decode cX8_readText 11 = .ok (.putfield 112, 3) := by decide +kernel
theorem dX8_readText_14 : decode cX8_readText 14 = .ok (.aload_n 0, 1) := by decide +kernel
theorem dX8_readText_15 : decode cX8_readText 15 = .ok (.getfield 105, 3) := by decide +kernel
theorem dX8_readText_18 : decode cX8_readText 18 = .ok (.ifCond .eq 14, 3) := by decide +kernel
theorem dX8_readText_21 : decode cX8_readText 21 = .ok (.aload_n 0, 1) := by decide +kernel
theorem dX8_readText_22 : decode cX8_readText 22 = .ok (.getfield 7, 3) := by decide +kernel
theorem dX8_readText_25 : decode cX8_readText 25 = .ok (.iconst 0, 1) := by decide +kernel
theorem dX8_readText_26 : decode cX8_readText 26 = .ok (.iaload, 1) := by decide +kernel
theorem dX8_readText_27 : decode cX8_readText 27 = .ok (.bipush 72, 2) := by decide +kernel
theorem dX8_readText_29 : decode cX8_readText 29 = .ok (.if_icmp .eq 5, 3) := by decide +kernel
theorem dX8_readText_32 : decode cX8_readText 32 = .ok (.iconst 0, 1) := by decide +kernel
theorem dX8_readText_33 : decode cX8_readText 33 = .ok (.ireturn, 1) := by decide +kernel
theorem dX8_readText_34 : decode cX8_readText 34 = .ok (.aload_n 0, 1) := by decide +kernel
theorem dX8_readText_35 : decode cX8_readText 35 = .ok (.iconst 1, 1) := by decide +kernel
theorem dX8_readText_36 : decode cX8_readText 36 = .ok (.putfield 112, 3) := by decide +kernel
theorem dX8_readText_39 : decode cX8_readText 39 = .ok (.aload_n 0, 1) := by decide +kernel
theorem dX8_readText_40 : decode cX8_readText 40 = .ok (.getfield 112, 3) := by decide +kernel
theorem dX8_readText_43 : decode cX8_readText 43 = .ok (.aload_n 0, 1) := by decide +kernel
theorem dX8_readText_44 : decode cX8_readText 44 = .ok (.getfield 105, 3) := by decide +kernel
theorem dX8_readText_47 : decode cX8_readText 47 = .ok (.if_icmp .ge 16, 3) := by decide +kernel
theorem dX8_readText_50 : decode cX8_readText 50 = .ok (.aload_n 0, 1) := by decide +kernel
theorem dX8_readText_51 : decode cX8_readText 51 = .ok (.aload_n 1, 1) := by decide +kernel
theorem dX8_readText_52 : decode cX8_readText 52 = .ok (.invokevirtual 156, 3) := by decide +kernel
theorem dX8_readText_55 : decode cX8_readText 55 = .ok (.ifCond .ne (-16), 3) := by decide +kernel
theorem dX8_readText_58 : decode cX8_readText 58 = .ok (.aload_n 0, 1) := by decide +kernel
theorem dX8_readText_59 : decode cX8_readText 59 = .ok (.getfield 112, 3) := by decide +kernel
theorem dX8_readText_62 : decode cX8_readText 62 = .ok (.ireturn, 1) := by decide +kernel
theorem dX8_readText_63 : decode cX8_readText 63 = .ok (.iconst (-1), 1) := by decide +kernel
theorem dX8_readText_64 : decode cX8_readText 64 = .ok (.ireturn, 1) := by decide +kernel
theorem dX8_errorPosition_0 : decode cX8_errorPosition 0 = .ok (.aload_n 0, 1) := by decide +kernel
theorem dX8_errorPosition_1 : decode cX8_errorPosition 1 = .ok (.iconst 0, 1) := by decide +kernel
theorem dX8_errorPosition_2 : decode cX8_errorPosition 2 = .ok (.putfield 36, 3) := by decide +kernel
theorem dX8_errorPosition_5 : decode cX8_errorPosition 5 = .ok (.aload_n 0, 1) := by decide +kernel
theorem dX8_errorPosition_6 : decode cX8_errorPosition 6 = .ok (.aload_n 0, 1) := by decide +kernel
theorem dX8_errorPosition_7 : decode cX8_errorPosition 7 = .ok (.getfield 16, 3) := by decide +kernel
theorem dX8_errorPosition_10 : decode cX8_errorPosition 10 = .ok (.invokevirtual 159, 3) := by decide +kernel
theorem dX8_errorPosition_13 : decode cX8_errorPosition 13 = .ok (.ireturn, 1) := by decide +kernel
theorem dX8_load_0 : decode cX8_load 0 = .ok (.aload_n 0, 1) := by decide +kernel
theorem dX8_load_1 : decode cX8_load 1 = .ok (.aload_n 0, 1) := by decide +kernel
theorem dX8_load_2 : decode cX8_load 2 = .ok (.aload_n 0, 1) := by decide +kernel
theorem dX8_load_3 : decode cX8_load 3 = .ok (.getfield 16, 3) := by decide +kernel
theorem dX8_load_6 : decode cX8_load 6 = .ok (.invokevirtual 159, 3) := by decide +kernel
theorem dX8_load_9 : decode cX8_load 9 = .ok (.iconst (-1), 1) := by decide +kernel
theorem dX8_load_10 : decode cX8_load 10 = .ok (.if_icmp .ne 7, 3) := by decide +kernel
theorem dX8_load_13 : decode cX8_load 13 = .ok (.iconst 0, 1) := by decide +kernel
theorem dX8_load_14 : decode cX8_load 14 = .ok (.goto 4, 3) := by decide +kernel
theorem dX8_load_17 : decode cX8_load 17 = .ok (.iconst 1, 1) := by decide +kernel
theorem dX8_load_18 : decode cX8_load 18 = .ok (.invokevirtual 108, 3) := by decide +kernel
theorem dX8_load_21 : decode cX8_load 21 = .ok (.ifCond .eq 5, 3) := by decide +kernel
theorem dX8_load_24 : decode cX8_load 24 = .ok (.iconst 0, 1) := by decide +kernel
theorem dX8_load_25 : decode cX8_load 25 = .ok (.ireturn, 1) := by decide +kernel
theorem dX8_load_26 : decode cX8_load 26 = .ok (.aload_n 0, 1) := by decide +kernel
theorem dX8_load_27 : decode cX8_load 27 = .ok (.getfield 16, 3) := by decide +kernel
theorem dX8_load_30 : decode cX8_load 30 = .ok (.iconst 0, 1) := by decide +kernel
theorem dX8_load_31 : decode cX8_load 31 = .ok (.aload_n 0, 1) := by decide +kernel
theorem dX8_load_32 : decode cX8_load 32 = .ok (.getfield 13, 3) := by decide +kernel
theorem dX8_load_35 : decode cX8_load 35 = .ok (.iconst 0, 1) := by decide +kernel
theorem dX8_load_36 : decode cX8_load 36 = .ok (.invokestatic 87, 3) := by decide +kernel
theorem dX8_load_39 : decode cX8_load 39 = .ok (.aload_n 0, 1) := by decide +kernel
theorem dX8_load_40 : decode cX8_load 40 = .ok (.iconst 0, 1) := by decide +kernel
theorem dX8_load_41 : decode cX8_load 41 = .ok (.putfield 162, 3) := by decide +kernel
theorem dX8_load_44 : decode cX8_load 44 = .ok (.aload_n 0, 1) := by decide +kernel
theorem dX8_load_45 : decode cX8_load 45 = .ok (.getfield 28, 3) := by decide +kernel
theorem dX8_load_48 : decode cX8_load 48 = .ok (.iconst 0, 1) := by decide +kernel
theorem dX8_load_49 : decode cX8_load 49 = .ok (.iconst 0, 1) := by decide +kernel
theorem dX8_load_50 : decode cX8_load 50 = .ok (.bastore, 1) := by decide +kernel
theorem dX8_load_51 : decode cX8_load 51 = .ok (.aload_n 0, 1) := by decide +kernel
theorem dX8_load_52 : decode cX8_load 52 = .ok (.getfield 28, 3) := by decide +kernel
theorem dX8_load_55 : decode cX8_load 55 = .ok (.iconst 1, 1) := by decide +kernel
theorem dX8_load_56 : decode cX8_load 56 = .ok (.iconst 0, 1) := by decide +kernel
theorem dX8_load_57 : decode cX8_load 57 = .ok (.bastore, 1) := by decide +kernel
theorem dX8_load_58 : decode cX8_load 58 = .ok (.aload_n 0, 1) := by decide +kernel
theorem dX8_load_59 : decode cX8_load 59 = .ok (.getfield 115, 3) := by decide +kernel
theorem dX8_load_62 : decode cX8_load 62 = .ok (.ireturn, 1) := by decide +kernel
theorem dX8_about_0 : decode cX8_about 0 = .ok (.aload_n 0, 1) := by decide +kernel
theorem dX8_about_1 : decode cX8_about 1 = .ok (.iload_n 1, 1) := by decide +kernel
theorem dX8_about_2 : decode cX8_about 2 = .ok (.i2l, 1) := by decide +kernel
theorem dX8_about_3 : decode cX8_about 3 = .ok (.lconst 0, 1) := by decide +kernel
theorem dX8_about_4 : decode cX8_about 4 = .ok (.ldc2_w 165, 3) := by decide +kernel
theorem dX8_about_7 : decode cX8_about 7 = .ok (.invokestatic 40, 3) := by decide +kernel
theorem dX8_about_10 : decode cX8_about 10 = .ok (.ifCond .eq 7, 3) := by decide +kernel
theorem dX8_about_13 : decode cX8_about 13 = .ok (.iconst 0, 1) := by decide +kernel
theorem dX8_about_14 : decode cX8_about 14 = .ok (.goto 4, 3) := by decide +kernel
theorem dX8_about_17 : decode cX8_about 17 = .ok (.iconst 1, 1) := by decide +kernel
theorem dX8_about_18 : decode cX8_about 18 = .ok (.invokevirtual 108, 3) := by decide +kernel
theorem dX8_about_21 : decode cX8_about 21 = .ok (.ifCond .eq 5, 3) := by decide +kernel
theorem dX8_about_24 : decode cX8_about 24 = .ok (.iconst 0, 1) := by decide +kernel
theorem dX8_about_25 : decode cX8_about 25 = .ok (.ireturn, 1) := by decide +kernel
theorem dX8_about_26 : decode cX8_about 26 = .ok (.iload_n 1, 1) := by decide +kernel
theorem dX8_about_27 : decode cX8_about 27 = .ok (.tableswitch 103 0 11 #[61, 61, 68, 76, 76, 76, 103, 103, 103, 103, 87, 95], 61) := by decide +kernel
theorem dX8_about_88 : decode cX8_about 88 = .ok (.aload_n 0, 1) := by decide +kernel
theorem dX8_about_89 : decode cX8_about 89 = .ok (.getfield 13, 3) := by decide +kernel
theorem dX8_about_92 : decode cX8_about 92 = .ok (.iload_n 1, 1) := by decide +kernel
theorem dX8_about_93 : decode cX8_about 93 = .ok (.iaload, 1) := by decide +kernel
theorem dX8_about_94 : decode cX8_about 94 = .ok (.ireturn, 1) := by decide +kernel
theorem dX8_about_95 : decode cX8_about 95 = .ok (.aload_n 0, 1) := by decide +kernel
theorem dX8_about_96 : decode cX8_about 96 = .ok (.getfield 13, 3) := by decide +kernel
theorem dX8_about_99 : decode cX8_about 99 = .ok (.invokestatic 64, 3) := by decide +kernel
theorem dX8_about_102 : decode cX8_about 102 = .ok (.ireturn, 1) := by decide +kernel
theorem dX8_about_103 : decode cX8_about 103 = .ok (.aload_n 0, 1) := by decide +kernel
theorem dX8_about_104 : decode cX8_about 104 = .ok (.getfield 13, 3) := by decide +kernel
theorem dX8_about_107 : decode cX8_about 107 = .ok (.iload_n 1, 1) := by decide +kernel
theorem dX8_about_108 : decode cX8_about 108 = .ok (.iconst 3, 1) := by decide +kernel
theorem dX8_about_109 : decode cX8_about 109 = .ok (.isub, 1) := by decide +kernel
theorem dX8_about_110 : decode cX8_about 110 = .ok (.invokestatic 84, 3) := by decide +kernel
theorem dX8_about_113 : decode cX8_about 113 = .ok (.ireturn, 1) := by decide +kernel
theorem dX8_about_114 : decode cX8_about 114 = .ok (.aload_n 0, 1) := by decide +kernel
theorem dX8_about_115 : decode cX8_about 115 = .ok (.getfield 13, 3) := by decide +kernel
theorem dX8_about_118 : decode cX8_about 118 = .ok (.invokestatic 81, 3) := by decide +kernel
theorem dX8_about_121 : decode cX8_about 121 = .ok (.ireturn, 1) := by decide +kernel
theorem dX8_about_122 : decode cX8_about 122 = .ok (.aload_n 0, 1) := by decide +kernel
theorem dX8_about_123 : decode cX8_about 123 = .ok (.getfield 13, 3) := by decide +kernel
theorem dX8_about_126 : decode cX8_about 126 = .ok (.bipush 6, 2) := by decide +kernel
theorem dX8_about_128 : decode cX8_about 128 = .ok (.iaload, 1) := by decide +kernel
theorem dX8_about_129 : decode cX8_about 129 = .ok (.ireturn, 1) := by decide +kernel
theorem dX8_about_130 : decode cX8_about 130 = .ok (.aload_n 0, 1) := by decide +kernel
theorem dX8_about_131 : decode cX8_about 131 = .ok (.getfield 13, 3) := by decide +kernel
theorem dX8_about_134 : decode cX8_about 134 = .ok (.iload_n 1, 1) := by decide +kernel
theorem dX8_about_135 : decode cX8_about 135 = .ok (.iconst 4, 1) := by decide +kernel
theorem dX8_about_136 : decode cX8_about 136 = .ok (.isub, 1) := by decide +kernel
theorem dX8_about_137 : decode cX8_about 137 = .ok (.iaload, 1) := by decide +kernel
theorem dX8_about_138 : decode cX8_about 138 = .ok (.ireturn, 1) := by decide +kernel
theorem dX8_guestOf_0 : decode cX8_guestOf 0 = .ok (.aload_n 0, 1) := by decide +kernel
theorem dX8_guestOf_1 : decode cX8_guestOf 1 = .ok (.aload_n 0, 1) := by decide +kernel
theorem dX8_guestOf_2 : decode cX8_guestOf 2 = .ok (.getfield 13, 3) := by decide +kernel
theorem dX8_guestOf_5 : decode cX8_guestOf 5 = .ok (.iload_n 1, 1) := by decide +kernel
theorem dX8_guestOf_6 : decode cX8_guestOf 6 = .ok (.invokestatic 91, 3) := by decide +kernel
theorem dX8_guestOf_9 : decode cX8_guestOf 9 = .ok (.ifCond .ne 7, 3) := by decide +kernel
theorem dX8_guestOf_12 : decode cX8_guestOf 12 = .ok (.iconst 1, 1) := by decide +kernel
theorem dX8_guestOf_13 : decode cX8_guestOf 13 = .ok (.goto 20, 3) := by decide +kernel
theorem dX8_guestOf_16 : decode cX8_guestOf 16 = .ok (.iload_n 2, 1) := by decide +kernel
theorem dX8_guestOf_17 : decode cX8_guestOf 17 = .ok (.i2l, 1) := by decide +kernel
theorem dX8_guestOf_18 : decode cX8_guestOf 18 = .ok (.lconst 0, 1) := by decide +kernel
theorem dX8_guestOf_19 : decode cX8_guestOf 19 = .ok (.ldc2_w 167, 3) := by decide +kernel
theorem dX8_guestOf_22 : decode cX8_guestOf 22 = .ok (.invokestatic 40, 3) := by decide +kernel
theorem dX8_guestOf_25 : decode cX8_guestOf 25 = .ok (.ifCond .eq 7, 3) := by decide +kernel
theorem dX8_guestOf_28 : decode cX8_guestOf 28 = .ok (.iconst 0, 1) := by decide +kernel
theorem dX8_guestOf_29 : decode cX8_guestOf 29 = .ok (.goto 4, 3) := by decide +kernel
theorem dX8_guestOf_32 : decode cX8_guestOf 32 = .ok (.iconst 2, 1) := by decide +kernel
theorem dX8_guestOf_33 : decode cX8_guestOf 33 = .ok (.invokevirtual 108, 3) := by decide +kernel
theorem dX8_guestOf_36 : decode cX8_guestOf 36 = .ok (.ifCond .eq 5, 3) := by decide +kernel
theorem dX8_guestOf_39 : decode cX8_guestOf 39 = .ok (.iconst 0, 1) := by decide +kernel
theorem dX8_guestOf_40 : decode cX8_guestOf 40 = .ok (.ireturn, 1) := by decide +kernel
theorem dX8_guestOf_41 : decode cX8_guestOf 41 = .ok (.aload_n 0, 1) := by decide +kernel
theorem dX8_guestOf_42 : decode cX8_guestOf 42 = .ok (.getfield 13, 3) := by decide +kernel
theorem dX8_guestOf_45 : decode cX8_guestOf 45 = .ok (.iload_n 1, 1) := by decide +kernel
theorem dX8_guestOf_46 : decode cX8_guestOf 46 = .ok (.iload_n 2, 1) := by decide +kernel
theorem dX8_guestOf_47 : decode cX8_guestOf 47 = .ok (.invokestatic 52, 3) := by decide +kernel
theorem dX8_guestOf_50 : decode cX8_guestOf 50 = .ok (.ireturn, 1) := by decide +kernel
theorem dX8_floorOf_0 : decode cX8_floorOf 0 = .ok (.aload_n 0, 1) := by decide +kernel
theorem dX8_floorOf_1 : decode cX8_floorOf 1 = .ok (.iload_n 1, 1) := by decide +kernel
theorem dX8_floorOf_2 : decode cX8_floorOf 2 = .ok (.invokestatic 169, 3) := by decide +kernel
theorem dX8_floorOf_5 : decode cX8_floorOf 5 = .ok (.ifCond .ne 7, 3) := by decide +kernel
theorem dX8_floorOf_8 : decode cX8_floorOf 8 = .ok (.iconst 1, 1) := by decide +kernel
theorem dX8_floorOf_9 : decode cX8_floorOf 9 = .ok (.goto 20, 3) := by decide +kernel
theorem dX8_floorOf_12 : decode cX8_floorOf 12 = .ok (.iload_n 2, 1) := by decide +kernel
theorem dX8_floorOf_13 : decode cX8_floorOf 13 = .ok (.i2l, 1) := by decide +kernel
theorem dX8_floorOf_14 : decode cX8_floorOf 14 = .ok (.lconst 0, 1) := by decide +kernel
theorem dX8_floorOf_15 : decode cX8_floorOf 15 = .ok (.ldc2_w 172, 3) := by decide +kernel
theorem dX8_floorOf_18 : decode cX8_floorOf 18 = .ok (.invokestatic 40, 3) := by decide +kernel
theorem dX8_floorOf_21 : decode cX8_floorOf 21 = .ok (.ifCond .eq 7, 3) := by decide +kernel
theorem dX8_floorOf_24 : decode cX8_floorOf 24 = .ok (.iconst 0, 1) := by decide +kernel
theorem dX8_floorOf_25 : decode cX8_floorOf 25 = .ok (.goto 4, 3) := by decide +kernel
theorem dX8_floorOf_28 : decode cX8_floorOf 28 = .ok (.iconst 2, 1) := by decide +kernel
theorem dX8_floorOf_29 : decode cX8_floorOf 29 = .ok (.invokevirtual 108, 3) := by decide +kernel
theorem dX8_floorOf_32 : decode cX8_floorOf 32 = .ok (.ifCond .eq 5, 3) := by decide +kernel
theorem dX8_floorOf_35 : decode cX8_floorOf 35 = .ok (.iconst 0, 1) := by decide +kernel
theorem dX8_floorOf_36 : decode cX8_floorOf 36 = .ok (.ireturn, 1) := by decide +kernel
theorem dX8_floorOf_37 : decode cX8_floorOf 37 = .ok (.iconst 0, 1) := by decide +kernel
theorem dX8_floorOf_38 : decode cX8_floorOf 38 = .ok (.istore_n 3, 1) := by decide +kernel
theorem dX8_floorOf_39 : decode cX8_floorOf 39 = .ok (.iconst 0, 1) := by decide +kernel
theorem dX8_floorOf_40 : decode cX8_floorOf 40 = .ok (.istore 4, 2) := by decide +kernel
theorem dX8_floorOf_42 : decode cX8_floorOf 42 = .ok (.iload 4, 2) := by decide +kernel
theorem dX8_floorOf_44 : decode cX8_floorOf 44 = .ok (.aload_n 0, 1) := by decide +kernel
theorem dX8_floorOf_45 : decode cX8_floorOf 45 = .ok (.getfield 13, 3) := by decide +kernel
theorem dX8_floorOf_48 : decode cX8_floorOf 48 = .ok (.iconst 0, 1) := by decide +kernel
theorem dX8_floorOf_49 : decode cX8_floorOf 49 = .ok (.iaload, 1) := by decide +kernel
theorem dX8_floorOf_50 : decode cX8_floorOf 50 = .ok (.if_icmp .ge 95, 3) := by decide +kernel
theorem dX8_floorOf_53 : decode cX8_floorOf 53 = .ok (.iload_n 2, 1) := by decide +kernel
theorem dX8_floorOf_54 : decode cX8_floorOf 54 = .ok (.iconst 2, 1) := by decide +kernel
theorem dX8_floorOf_55 : decode cX8_floorOf 55 = .ok (.if_icmp .ne 25, 3) := by decide +kernel
theorem dX8_floorOf_58 : decode cX8_floorOf 58 = .ok (.aload_n 0, 1) := by decide +kernel
theorem dX8_floorOf_59 : decode cX8_floorOf 59 = .ok (.getfield 13, 3) := by decide +kernel
theorem dX8_floorOf_62 : decode cX8_floorOf 62 = .ok (.iload 4, 2) := by decide +kernel
theorem dX8_floorOf_64 : decode cX8_floorOf 64 = .ok (.iconst 0, 1) := by decide +kernel
theorem dX8_floorOf_65 : decode cX8_floorOf 65 = .ok (.invokestatic 52, 3) := by decide +kernel
theorem dX8_floorOf_68 : decode cX8_floorOf 68 = .ok (.iload_n 1, 1) := by decide +kernel
theorem dX8_floorOf_69 : decode cX8_floorOf 69 = .ok (.if_icmp .ne 7, 3) := by decide +kernel
theorem dX8_floorOf_72 : decode cX8_floorOf 72 = .ok (.iconst 1, 1) := by decide +kernel
theorem dX8_floorOf_73 : decode cX8_floorOf 73 = .ok (.goto 48, 3) := by decide +kernel
theorem dX8_floorOf_76 : decode cX8_floorOf 76 = .ok (.iconst 0, 1) := by decide +kernel
theorem dX8_floorOf_77 : decode cX8_floorOf 77 = .ok (.goto 44, 3) := by decide +kernel
theorem dX8_floorOf_80 : decode cX8_floorOf 80 = .ok (.aload_n 0, 1) := by decide +kernel
theorem dX8_floorOf_81 : decode cX8_floorOf 81 = .ok (.getfield 13, 3) := by decide +kernel
theorem dX8_floorOf_84 : decode cX8_floorOf 84 = .ok (.iload 4, 2) := by decide +kernel
theorem dX8_floorOf_86 : decode cX8_floorOf 86 = .ok (.iconst 4, 1) := by decide +kernel
theorem dX8_floorOf_87 : decode cX8_floorOf 87 = .ok (.invokestatic 52, 3) := by decide +kernel
theorem dX8_floorOf_90 : decode cX8_floorOf 90 = .ok (.iload_n 1, 1) := by decide +kernel
theorem dX8_floorOf_91 : decode cX8_floorOf 91 = .ok (.if_icmp .ne 29, 3) := by decide +kernel
theorem dX8_floorOf_94 : decode cX8_floorOf 94 = .ok (.aload_n 0, 1) := by decide +kernel
theorem dX8_floorOf_95 : decode cX8_floorOf 95 = .ok (.getfield 13, 3) := by decide +kernel
theorem dX8_floorOf_98 : decode cX8_floorOf 98 = .ok (.iload 4, 2) := by decide +kernel
theorem dX8_floorOf_100 : decode cX8_floorOf 100 = .ok (.iconst 3, 1) := by decide +kernel
theorem dX8_floorOf_101 : decode cX8_floorOf 101 = .ok (.invokestatic 52, 3) := by decide +kernel
theorem dX8_floorOf_104 : decode cX8_floorOf 104 = .ok (.iload_n 2, 1) := by decide +kernel
theorem dX8_floorOf_105 : decode cX8_floorOf 105 = .ok (.ifCond .ne 7, 3) := by decide +kernel
theorem dX8_floorOf_108 : decode cX8_floorOf 108 = .ok (.iconst 0, 1) := by decide +kernel
theorem dX8_floorOf_109 : decode cX8_floorOf 109 = .ok (.goto 4, 3) := by decide +kernel
theorem dX8_floorOf_112 : decode cX8_floorOf 112 = .ok (.iconst 2, 1) := by decide +kernel
theorem dX8_floorOf_113 : decode cX8_floorOf 113 = .ok (.if_icmp .ne 7, 3) := by decide +kernel
theorem dX8_floorOf_116 : decode cX8_floorOf 116 = .ok (.iconst 1, 1) := by decide +kernel
theorem dX8_floorOf_117 : decode cX8_floorOf 117 = .ok (.goto 4, 3) := by decide +kernel
theorem dX8_floorOf_120 : decode cX8_floorOf 120 = .ok (.iconst 0, 1) := by decide +kernel
theorem dX8_floorOf_121 : decode cX8_floorOf 121 = .ok (.istore 5, 2) := by decide +kernel
theorem dX8_floorOf_123 : decode cX8_floorOf 123 = .ok (.iload_n 3, 1) := by decide +kernel
theorem dX8_floorOf_124 : decode cX8_floorOf 124 = .ok (.iload 5, 2) := by decide +kernel
theorem dX8_floorOf_126 : decode cX8_floorOf 126 = .ok (.ifCond .eq 10, 3) := by decide +kernel
theorem dX8_floorOf_129 : decode cX8_floorOf 129 = .ok (.iconst 1, 1) := by decide +kernel
theorem dX8_floorOf_130 : decode cX8_floorOf 130 = .ok (.iload 4, 2) := by decide +kernel
theorem dX8_floorOf_132 : decode cX8_floorOf 132 = .ok (.ishl, 1) := by decide +kernel
theorem dX8_floorOf_133 : decode cX8_floorOf 133 = .ok (.goto 4, 3) := by decide +kernel
theorem dX8_floorOf_136 : decode cX8_floorOf 136 = .ok (.iconst 0, 1) := by decide +kernel
theorem dX8_floorOf_137 : decode cX8_floorOf 137 = .ok (.ior, 1) := by decide +kernel
theorem dX8_floorOf_138 : decode cX8_floorOf 138 = .ok (.istore_n 3, 1) := by decide +kernel
theorem dX8_floorOf_139 : decode cX8_floorOf 139 = .ok (.iinc 4 1, 3) := by decide +kernel
theorem dX8_floorOf_142 : decode cX8_floorOf 142 = .ok (.goto (-100), 3) := by decide +kernel
theorem dX8_floorOf_145 : decode cX8_floorOf 145 = .ok (.iload_n 3, 1) := by decide +kernel
theorem dX8_floorOf_146 : decode cX8_floorOf 146 = .ok (.ireturn, 1) := by decide +kernel
theorem dX8_setting_0 : decode cX8_setting 0 = .ok (.aload_n 0, 1) := by decide +kernel
theorem dX8_setting_1 : decode cX8_setting 1 = .ok (.iload_n 1, 1) := by decide +kernel
theorem dX8_setting_2 : decode cX8_setting 2 = .ok (.i2l, 1) := by decide +kernel
theorem dX8_setting_3 : decode cX8_setting 3 = .ok (.lconst 0, 1) := by decide +kernel
theorem dX8_setting_4 : decode cX8_setting 4 = .ok (.ldc2_w 172, 3) := by decide +kernel
theorem dX8_setting_7 : decode cX8_setting 7 = .ok (.invokestatic 40, 3) := by decide +kernel
theorem dX8_setting_10 : decode cX8_setting 10 = .ok (.ifCond .eq 7, 3) := by decide +kernel
theorem dX8_setting_13 : decode cX8_setting 13 = .ok (.iconst 0, 1) := by decide +kernel
theorem dX8_setting_14 : decode cX8_setting 14 = .ok (.goto 4, 3) := by decide +kernel
theorem dX8_setting_17 : decode cX8_setting 17 = .ok (.iconst 1, 1) := by decide +kernel
theorem dX8_setting_18 : decode cX8_setting 18 = .ok (.invokevirtual 108, 3) := by decide +kernel
theorem dX8_setting_21 : decode cX8_setting 21 = .ok (.ifCond .eq 5, 3) := by decide +kernel
theorem dX8_setting_24 : decode cX8_setting 24 = .ok (.iconst 0, 1) := by decide +kernel
theorem dX8_setting_25 : decode cX8_setting 25 = .ok (.ireturn, 1) := by decide +kernel
theorem dX8_setting_26 : decode cX8_setting 26 = .ok (.aload_n 0, 1) := by decide +kernel
theorem dX8_setting_27 : decode cX8_setting 27 = .ok (.getfield 13, 3) := by decide +kernel
theorem dX8_setting_30 : decode cX8_setting 30 = .ok (.bipush 7, 2) := by decide +kernel
theorem dX8_setting_32 : decode cX8_setting 32 = .ok (.iload_n 1, 1) := by decide +kernel
theorem dX8_setting_33 : decode cX8_setting 33 = .ok (.iadd, 1) := by decide +kernel
theorem dX8_setting_34 : decode cX8_setting 34 = .ok (.iaload, 1) := by decide +kernel
theorem dX8_setting_35 : decode cX8_setting 35 = .ok (.ireturn, 1) := by decide +kernel
theorem dX8_remember_0 : decode cX8_remember 0 = .ok (.aload_n 0, 1) := by decide +kernel
theorem dX8_remember_1 : decode cX8_remember 1 = .ok (.getfield 162, 3) := by decide +kernel
theorem dX8_remember_4 : decode cX8_remember 4 = .ok (.bipush 14, 2) := by decide +kernel
theorem dX8_remember_6 : decode cX8_remember 6 = .ok (.if_icmp .ne 43, 3) := by decide +kernel
theorem dX8_remember_9 : decode cX8_remember 9 = .ok (.iconst 0, 1) := by decide +kernel
theorem dX8_remember_10 : decode cX8_remember 10 = .ok (.istore_n 1, 1) := by decide +kernel
theorem dX8_remember_11 : decode cX8_remember 11 = .ok (.iload_n 1, 1) := by decide +kernel
theorem dX8_remember_12 : decode cX8_remember 12 = .ok (.sipush 546, 3) := by decide +kernel
theorem dX8_remember_15 : decode cX8_remember 15 = .ok (.if_icmp .ge 24, 3) := by decide +kernel
theorem dX8_remember_18 : decode cX8_remember 18 = .ok (.aload_n 0, 1) := by decide +kernel
theorem dX8_remember_19 : decode cX8_remember 19 = .ok (.getfield 22, 3) := by decide +kernel
theorem dX8_remember_22 : decode cX8_remember 22 = .ok (.iload_n 1, 1) := by decide +kernel
theorem dX8_remember_23 : decode cX8_remember 23 = .ok (.aload_n 0, 1) := by decide +kernel
theorem dX8_remember_24 : decode cX8_remember 24 = .ok (.getfield 22, 3) := by decide +kernel
theorem dX8_remember_27 : decode cX8_remember 27 = .ok (.iload_n 1, 1) := by decide +kernel
theorem dX8_remember_28 : decode cX8_remember 28 = .ok (.bipush 42, 2) := by decide +kernel
theorem dX8_remember_30 : decode cX8_remember 30 = .ok (.iadd, 1) := by decide +kernel
theorem dX8_remember_31 : decode cX8_remember 31 = .ok (.iaload, 1) := by decide +kernel
theorem dX8_remember_32 : decode cX8_remember 32 = .ok (.iastore, 1) := by decide +kernel
theorem dX8_remember_33 : decode cX8_remember 33 = .ok (.iinc 1 1, 3) := by decide +kernel
theorem dX8_remember_36 : decode cX8_remember 36 = .ok (.goto (-25), 3) := by decide +kernel
theorem dX8_remember_39 : decode cX8_remember 39 = .ok (.aload_n 0, 1) := by decide +kernel
theorem dX8_remember_40 : decode cX8_remember 40 = .ok (.dup, 1) := by decide +kernel
theorem dX8_remember_41 : decode cX8_remember 41 = .ok (.getfield 162, 3) := by decide +kernel
theorem dX8_remember_44 : decode cX8_remember 44 = .ok (.iconst 1, 1) := by decide +kernel
theorem dX8_remember_45 : decode cX8_remember 45 = .ok (.isub, 1) := by decide +kernel
theorem dX8_remember_46 : decode cX8_remember 46 = .ok (.putfield 162, 3) := by decide +kernel
theorem dX8_remember_49 : decode cX8_remember 49 = .ok (.aload_n 0, 1) := by decide +kernel
theorem dX8_remember_50 : decode cX8_remember 50 = .ok (.getfield 13, 3) := by decide +kernel
theorem dX8_remember_53 : decode cX8_remember 53 = .ok (.iconst 0, 1) := by decide +kernel
theorem dX8_remember_54 : decode cX8_remember 54 = .ok (.aload_n 0, 1) := by decide +kernel
theorem dX8_remember_55 : decode cX8_remember 55 = .ok (.getfield 22, 3) := by decide +kernel
theorem dX8_remember_58 : decode cX8_remember 58 = .ok (.bipush 42, 2) := by decide +kernel
theorem dX8_remember_60 : decode cX8_remember 60 = .ok (.aload_n 0, 1) := by decide +kernel
theorem dX8_remember_61 : decode cX8_remember 61 = .ok (.getfield 162, 3) := by decide +kernel
theorem dX8_remember_64 : decode cX8_remember 64 = .ok (.imul, 1) := by decide +kernel
theorem dX8_remember_65 : decode cX8_remember 65 = .ok (.invokestatic 87, 3) := by decide +kernel
theorem dX8_remember_68 : decode cX8_remember 68 = .ok (.aload_n 0, 1) := by decide +kernel
theorem dX8_remember_69 : decode cX8_remember 69 = .ok (.dup, 1) := by decide +kernel
theorem dX8_remember_70 : decode cX8_remember 70 = .ok (.getfield 162, 3) := by decide +kernel
theorem dX8_remember_73 : decode cX8_remember 73 = .ok (.iconst 1, 1) := by decide +kernel
theorem dX8_remember_74 : decode cX8_remember 74 = .ok (.iadd, 1) := by decide +kernel
theorem dX8_remember_75 : decode cX8_remember 75 = .ok (.putfield 162, 3) := by decide +kernel
theorem dX8_remember_78 : decode cX8_remember 78 = .ok (.return_, 1) := by decide +kernel
theorem dX8_come_0 : decode cX8_come 0 = .ok (.iload_n 1, 1) := by decide +kernel
theorem dX8_come_1 : decode cX8_come 1 = .ok (.invokestatic 169, 3) := by decide +kernel
theorem dX8_come_4 : decode cX8_come 4 = .ok (.ifCond .eq 21, 3) := by decide +kernel
theorem dX8_come_7 : decode cX8_come 7 = .ok (.iload_n 2, 1) := by decide +kernel
theorem dX8_come_8 : decode cX8_come 8 = .ok (.invokestatic 169, 3) := by decide +kernel
theorem dX8_come_11 : decode cX8_come 11 = .ok (.ifCond .eq 14, 3) := by decide +kernel
theorem dX8_come_14 : decode cX8_come 14 = .ok (.iload_n 3, 1) := by decide +kernel
theorem dX8_come_15 : decode cX8_come 15 = .ok (.invokestatic 169, 3) := by decide +kernel
theorem dX8_come_18 : decode cX8_come 18 = .ok (.ifCond .eq 7, 3) := by decide +kernel
theorem dX8_come_21 : decode cX8_come 21 = .ok (.iconst 1, 1) := by decide +kernel
theorem dX8_come_22 : decode cX8_come 22 = .ok (.goto 4, 3) := by decide +kernel
theorem dX8_come_25 : decode cX8_come 25 = .ok (.iconst 0, 1) := by decide +kernel
theorem dX8_come_26 : decode cX8_come 26 = .ok (.istore 5, 2) := by decide +kernel
theorem dX8_come_28 : decode cX8_come 28 = .ok (.aload_n 0, 1) := by decide +kernel
theorem dX8_come_29 : decode cX8_come 29 = .ok (.iload 5, 2) := by decide +kernel
theorem dX8_come_31 : decode cX8_come 31 = .ok (.ifCond .ne 7, 3) := by decide +kernel
theorem dX8_come_34 : decode cX8_come 34 = .ok (.iconst 1, 1) := by decide +kernel
theorem dX8_come_35 : decode cX8_come 35 = .ok (.goto 35, 3) := by decide +kernel
theorem dX8_come_38 : decode cX8_come 38 = .ok (.iload 4, 2) := by decide +kernel
theorem dX8_come_40 : decode cX8_come 40 = .ok (.i2l, 1) := by decide +kernel
theorem dX8_come_41 : decode cX8_come 41 = .ok (.lconst 1, 1) := by decide +kernel
theorem dX8_come_42 : decode cX8_come 42 = .ok (.ldc2_w 46, 3) := by decide +kernel
theorem dX8_come_45 : decode cX8_come 45 = .ok (.invokestatic 40, 3) := by decide +kernel
theorem dX8_come_48 : decode cX8_come 48 = .ok (.ifCond .ne 7, 3) := by decide +kernel
theorem dX8_come_51 : decode cX8_come 51 = .ok (.iconst 2, 1) := by decide +kernel
theorem dX8_come_52 : decode cX8_come 52 = .ok (.goto 18, 3) := by decide +kernel
theorem dX8_come_55 : decode cX8_come 55 = .ok (.aload_n 0, 1) := by decide +kernel
theorem dX8_come_56 : decode cX8_come 56 = .ok (.getfield 13, 3) := by decide +kernel
theorem dX8_come_59 : decode cX8_come 59 = .ok (.iconst 0, 1) := by decide +kernel
theorem dX8_come_60 : decode cX8_come 60 = .ok (.iaload, 1) := by decide +kernel
theorem dX8_come_61 : decode cX8_come 61 = .ok (.iconst 4, 1) := by decide +kernel
theorem dX8_come_62 : decode cX8_come 62 = .ok (.if_icmp .ge 7, 3) := by decide +kernel
theorem dX8_come_65 : decode cX8_come 65 = .ok (.iconst 0, 1) := by decide +kernel
theorem dX8_come_66 : decode cX8_come 66 = .ok (.goto 4, 3) := by decide +kernel
theorem dX8_come_69 : decode cX8_come 69 = .ok (.iconst 3, 1) := by decide +kernel
theorem dX8_come_70 : decode cX8_come 70 = .ok (.invokevirtual 108, 3) := by decide +kernel
theorem dX8_come_73 : decode cX8_come 73 = .ok (.ifCond .eq 5, 3) := by decide +kernel
theorem dX8_come_76 : decode cX8_come 76 = .ok (.iconst 0, 1) := by decide +kernel
theorem dX8_come_77 : decode cX8_come 77 = .ok (.ireturn, 1) := by decide +kernel
theorem dX8_come_78 : decode cX8_come 78 = .ok (.aload_n 0, 1) := by decide +kernel
theorem dX8_come_79 : decode cX8_come 79 = .ok (.invokevirtual 174, 3) := by decide +kernel
theorem dX8_come_82 : decode cX8_come 82 = .ok (.aload_n 0, 1) := by decide +kernel
theorem dX8_come_83 : decode cX8_come 83 = .ok (.getfield 13, 3) := by decide +kernel
theorem dX8_come_86 : decode cX8_come 86 = .ok (.iload_n 1, 1) := by decide +kernel
theorem dX8_come_87 : decode cX8_come 87 = .ok (.iload_n 2, 1) := by decide +kernel
theorem dX8_come_88 : decode cX8_come 88 = .ok (.iload_n 3, 1) := by decide +kernel
theorem dX8_come_89 : decode cX8_come 89 = .ok (.iload 4, 2) := by decide +kernel
theorem dX8_come_91 : decode cX8_come 91 = .ok (.invokestatic 122, 3) := by decide +kernel
theorem dX8_come_94 : decode cX8_come 94 = .ok (.ireturn, 1) := by decide +kernel
theorem dX8_leave_0 : decode cX8_leave 0 = .ok (.aload_n 0, 1) := by decide +kernel
theorem dX8_leave_1 : decode cX8_leave 1 = .ok (.aload_n 0, 1) := by decide +kernel
theorem dX8_leave_2 : decode cX8_leave 2 = .ok (.getfield 13, 3) := by decide +kernel
theorem dX8_leave_5 : decode cX8_leave 5 = .ok (.iload_n 1, 1) := by decide +kernel
theorem dX8_leave_6 : decode cX8_leave 6 = .ok (.invokestatic 91, 3) := by decide +kernel
theorem dX8_leave_9 : decode cX8_leave 9 = .ok (.ifCond .eq 7, 3) := by decide +kernel
theorem dX8_leave_12 : decode cX8_leave 12 = .ok (.iconst 0, 1) := by decide +kernel
theorem dX8_leave_13 : decode cX8_leave 13 = .ok (.goto 4, 3) := by decide +kernel
theorem dX8_leave_16 : decode cX8_leave 16 = .ok (.iconst 1, 1) := by decide +kernel
theorem dX8_leave_17 : decode cX8_leave 17 = .ok (.invokevirtual 108, 3) := by decide +kernel
theorem dX8_leave_20 : decode cX8_leave 20 = .ok (.ifCond .eq 5, 3) := by decide +kernel
theorem dX8_leave_23 : decode cX8_leave 23 = .ok (.iconst 0, 1) := by decide +kernel
theorem dX8_leave_24 : decode cX8_leave 24 = .ok (.ireturn, 1) := by decide +kernel
theorem dX8_leave_25 : decode cX8_leave 25 = .ok (.aload_n 0, 1) := by decide +kernel
theorem dX8_leave_26 : decode cX8_leave 26 = .ok (.invokevirtual 174, 3) := by decide +kernel
theorem dX8_leave_29 : decode cX8_leave 29 = .ok (.aload_n 0, 1) := by decide +kernel
theorem dX8_leave_30 : decode cX8_leave 30 = .ok (.getfield 13, 3) := by decide +kernel
theorem dX8_leave_33 : decode cX8_leave 33 = .ok (.iload_n 1, 1) := by decide +kernel
theorem dX8_leave_34 : decode cX8_leave 34 = .ok (.invokestatic 139, 3) := by decide +kernel
theorem dX8_leave_37 : decode cX8_leave 37 = .ok (.ireturn, 1) := by decide +kernel
theorem dX8_press_0 : decode cX8_press 0 = .ok (.aload_n 0, 1) := by decide +kernel
theorem dX8_press_1 : decode cX8_press 1 = .ok (.aload_n 0, 1) := by decide +kernel
theorem dX8_press_2 : decode cX8_press 2 = .ok (.getfield 13, 3) := by decide +kernel
theorem dX8_press_5 : decode cX8_press 5 = .ok (.iload_n 1, 1) := by decide +kernel
theorem dX8_press_6 : decode cX8_press 6 = .ok (.invokestatic 91, 3) := by decide +kernel
theorem dX8_press_9 : decode cX8_press 9 = .ok (.ifCond .eq 7, 3) := by decide +kernel
theorem dX8_press_12 : decode cX8_press 12 = .ok (.iconst 0, 1) := by decide +kernel
theorem dX8_press_13 : decode cX8_press 13 = .ok (.goto 4, 3) := by decide +kernel
theorem dX8_press_16 : decode cX8_press 16 = .ok (.iconst 1, 1) := by decide +kernel
theorem dX8_press_17 : decode cX8_press 17 = .ok (.invokevirtual 108, 3) := by decide +kernel
theorem dX8_press_20 : decode cX8_press 20 = .ok (.ifCond .eq 5, 3) := by decide +kernel
theorem dX8_press_23 : decode cX8_press 23 = .ok (.iconst 0, 1) := by decide +kernel
theorem dX8_press_24 : decode cX8_press 24 = .ok (.ireturn, 1) := by decide +kernel
theorem dX8_press_25 : decode cX8_press 25 = .ok (.aload_n 0, 1) := by decide +kernel
theorem dX8_press_26 : decode cX8_press 26 = .ok (.invokevirtual 174, 3) := by decide +kernel
theorem dX8_press_29 : decode cX8_press 29 = .ok (.aload_n 0, 1) := by decide +kernel
theorem dX8_press_30 : decode cX8_press 30 = .ok (.getfield 13, 3) := by decide +kernel
theorem dX8_press_33 : decode cX8_press 33 = .ok (.iload_n 1, 1) := by decide +kernel
theorem dX8_press_34 : decode cX8_press 34 = .ok (.invokestatic 133, 3) := by decide +kernel
theorem dX8_press_37 : decode cX8_press 37 = .ok (.ireturn, 1) := by decide +kernel
theorem dX8_rest_0 : decode cX8_rest 0 = .ok (.aload_n 0, 1) := by decide +kernel
theorem dX8_rest_1 : decode cX8_rest 1 = .ok (.iconst 0, 1) := by decide +kernel
theorem dX8_rest_2 : decode cX8_rest 2 = .ok (.putfield 36, 3) := by decide +kernel
theorem dX8_rest_5 : decode cX8_rest 5 = .ok (.aload_n 0, 1) := by decide +kernel
theorem dX8_rest_6 : decode cX8_rest 6 = .ok (.invokevirtual 174, 3) := by decide +kernel
theorem dX8_rest_9 : decode cX8_rest 9 = .ok (.aload_n 0, 1) := by decide +kernel
theorem dX8_rest_10 : decode cX8_rest 10 = .ok (.getfield 13, 3) := by decide +kernel
theorem dX8_rest_13 : decode cX8_rest 13 = .ok (.invokestatic 136, 3) := by decide +kernel
theorem dX8_rest_16 : decode cX8_rest 16 = .ok (.ireturn, 1) := by decide +kernel
theorem dX8_set_0 : decode cX8_set 0 = .ok (.aload_n 0, 1) := by decide +kernel
theorem dX8_set_1 : decode cX8_set 1 = .ok (.iload_n 1, 1) := by decide +kernel
theorem dX8_set_2 : decode cX8_set 2 = .ok (.iload_n 2, 1) := by decide +kernel
theorem dX8_set_3 : decode cX8_set 3 = .ok (.invokestatic 142, 3) := by decide +kernel
theorem dX8_set_6 : decode cX8_set 6 = .ok (.ifCond .eq 7, 3) := by decide +kernel
theorem dX8_set_9 : decode cX8_set 9 = .ok (.iconst 0, 1) := by decide +kernel
theorem dX8_set_10 : decode cX8_set 10 = .ok (.goto 4, 3) := by decide +kernel
theorem dX8_set_13 : decode cX8_set 13 = .ok (.iconst 1, 1) := by decide +kernel
theorem dX8_set_14 : decode cX8_set 14 = .ok (.invokevirtual 108, 3) := by decide +kernel
theorem dX8_set_17 : decode cX8_set 17 = .ok (.ifCond .eq 5, 3) := by decide +kernel
theorem dX8_set_20 : decode cX8_set 20 = .ok (.iconst 0, 1) := by decide +kernel
theorem dX8_set_21 : decode cX8_set 21 = .ok (.ireturn, 1) := by decide +kernel
theorem dX8_set_22 : decode cX8_set 22 = .ok (.aload_n 0, 1) := by decide +kernel
theorem dX8_set_23 : decode cX8_set 23 = .ok (.invokevirtual 174, 3) := by decide +kernel
theorem dX8_set_26 : decode cX8_set 26 = .ok (.aload_n 0, 1) := by decide +kernel
theorem dX8_set_27 : decode cX8_set 27 = .ok (.getfield 13, 3) := by decide +kernel
theorem dX8_set_30 : decode cX8_set 30 = .ok (.iload_n 1, 1) := by decide +kernel
theorem dX8_set_31 : decode cX8_set 31 = .ok (.iload_n 2, 1) := by decide +kernel
theorem dX8_set_32 : decode cX8_set 32 = .ok (.invokestatic 146, 3) := by decide +kernel
theorem dX8_set_35 : decode cX8_set 35 = .ok (.ireturn, 1) := by decide +kernel
theorem dX8_undo_0 : decode cX8_undo 0 = .ok (.aload_n 0, 1) := by decide +kernel
theorem dX8_undo_1 : decode cX8_undo 1 = .ok (.aload_n 0, 1) := by decide +kernel
theorem dX8_undo_2 : decode cX8_undo 2 = .ok (.getfield 162, 3) := by decide +kernel
theorem dX8_undo_5 : decode cX8_undo 5 = .ok (.ifCond .ne 7, 3) := by decide +kernel
theorem dX8_undo_8 : decode cX8_undo 8 = .ok (.iconst 1, 1) := by decide +kernel
theorem dX8_undo_9 : decode cX8_undo 9 = .ok (.goto 4, 3) := by decide +kernel
theorem dX8_undo_12 : decode cX8_undo 12 = .ok (.iconst 0, 1) := by decide +kernel
theorem dX8_undo_13 : decode cX8_undo 13 = .ok (.invokevirtual 108, 3) := by decide +kernel
theorem dX8_undo_16 : decode cX8_undo 16 = .ok (.ifCond .eq 5, 3) := by decide +kernel
theorem dX8_undo_19 : decode cX8_undo 19 = .ok (.iconst 0, 1) := by decide +kernel
theorem dX8_undo_20 : decode cX8_undo 20 = .ok (.ireturn, 1) := by decide +kernel
theorem dX8_undo_21 : decode cX8_undo 21 = .ok (.aload_n 0, 1) := by decide +kernel
theorem dX8_undo_22 : decode cX8_undo 22 = .ok (.dup, 1) := by decide +kernel
theorem dX8_undo_23 : decode cX8_undo 23 = .ok (.getfield 162, 3) := by decide +kernel
theorem dX8_undo_26 : decode cX8_undo 26 = .ok (.iconst 1, 1) := by decide +kernel
theorem dX8_undo_27 : decode cX8_undo 27 = .ok (.isub, 1) := by decide +kernel
theorem dX8_undo_28 : decode cX8_undo 28 = .ok (.putfield 162, 3) := by decide +kernel
theorem dX8_undo_31 : decode cX8_undo 31 = .ok (.aload_n 0, 1) := by decide +kernel
theorem dX8_undo_32 : decode cX8_undo 32 = .ok (.getfield 22, 3) := by decide +kernel
theorem dX8_undo_35 : decode cX8_undo 35 = .ok (.bipush 42, 2) := by decide +kernel
theorem dX8_undo_37 : decode cX8_undo 37 = .ok (.aload_n 0, 1) := by decide +kernel
theorem dX8_undo_38 : decode cX8_undo 38 = .ok (.getfield 162, 3) := by decide +kernel
theorem dX8_undo_41 : decode cX8_undo 41 = .ok (.imul, 1) := by decide +kernel
theorem dX8_undo_42 : decode cX8_undo 42 = .ok (.aload_n 0, 1) := by decide +kernel
theorem dX8_undo_43 : decode cX8_undo 43 = .ok (.getfield 13, 3) := by decide +kernel
theorem dX8_undo_46 : decode cX8_undo 46 = .ok (.iconst 0, 1) := by decide +kernel
theorem dX8_undo_47 : decode cX8_undo 47 = .ok (.invokestatic 87, 3) := by decide +kernel
theorem dX8_undo_50 : decode cX8_undo 50 = .ok (.aload_n 0, 1) := by decide +kernel
theorem dX8_undo_51 : decode cX8_undo 51 = .ok (.getfield 162, 3) := by decide +kernel
theorem dX8_undo_54 : decode cX8_undo 54 = .ok (.ireturn, 1) := by decide +kernel
theorem dX8_why_0 : decode cX8_why 0 = .ok (.aload_n 0, 1) := by decide +kernel
theorem dX8_why_1 : decode cX8_why 1 = .ok (.aload_n 0, 1) := by decide +kernel
theorem dX8_why_2 : decode cX8_why 2 = .ok (.getfield 13, 3) := by decide +kernel
theorem dX8_why_5 : decode cX8_why 5 = .ok (.iload_n 1, 1) := by decide +kernel
theorem dX8_why_6 : decode cX8_why 6 = .ok (.invokestatic 91, 3) := by decide +kernel
theorem dX8_why_9 : decode cX8_why 9 = .ok (.ifCond .eq 7, 3) := by decide +kernel
theorem dX8_why_12 : decode cX8_why 12 = .ok (.iconst 0, 1) := by decide +kernel
theorem dX8_why_13 : decode cX8_why 13 = .ok (.goto 4, 3) := by decide +kernel
theorem dX8_why_16 : decode cX8_why 16 = .ok (.iconst 1, 1) := by decide +kernel
theorem dX8_why_17 : decode cX8_why 17 = .ok (.invokevirtual 108, 3) := by decide +kernel
theorem dX8_why_20 : decode cX8_why 20 = .ok (.ifCond .eq 5, 3) := by decide +kernel
theorem dX8_why_23 : decode cX8_why 23 = .ok (.iconst 0, 1) := by decide +kernel
theorem dX8_why_24 : decode cX8_why 24 = .ok (.ireturn, 1) := by decide +kernel
theorem dX8_why_25 : decode cX8_why 25 = .ok (.aload_n 0, 1) := by decide +kernel
theorem dX8_why_26 : decode cX8_why 26 = .ok (.getfield 13, 3) := by decide +kernel
theorem dX8_why_29 : decode cX8_why 29 = .ok (.iload_n 1, 1) := by decide +kernel
theorem dX8_why_30 : decode cX8_why 30 = .ok (.invokestatic 74, 3) := by decide +kernel
theorem dX8_why_33 : decode cX8_why 33 = .ok (.ireturn, 1) := by decide +kernel
theorem dX8_fewest_0 : decode cX8_fewest 0 = .ok (.aload_n 0, 1) := by decide +kernel
theorem dX8_fewest_1 : decode cX8_fewest 1 = .ok (.iload_n 1, 1) := by decide +kernel
theorem dX8_fewest_2 : decode cX8_fewest 2 = .ok (.i2l, 1) := by decide +kernel
theorem dX8_fewest_3 : decode cX8_fewest 3 = .ok (.lconst 0, 1) := by decide +kernel
theorem dX8_fewest_4 : decode cX8_fewest 4 = .ok (.lconst 1, 1) := by decide +kernel
theorem dX8_fewest_5 : decode cX8_fewest 5 = .ok (.invokestatic 40, 3) := by decide +kernel
theorem dX8_fewest_8 : decode cX8_fewest 8 = .ok (.ifCond .eq 7, 3) := by decide +kernel
theorem dX8_fewest_11 : decode cX8_fewest 11 = .ok (.iconst 0, 1) := by decide +kernel
theorem dX8_fewest_12 : decode cX8_fewest 12 = .ok (.goto 4, 3) := by decide +kernel
theorem dX8_fewest_15 : decode cX8_fewest 15 = .ok (.iconst 1, 1) := by decide +kernel
theorem dX8_fewest_16 : decode cX8_fewest 16 = .ok (.invokevirtual 108, 3) := by decide +kernel
theorem dX8_fewest_19 : decode cX8_fewest 19 = .ok (.ifCond .eq 5, 3) := by decide +kernel
theorem dX8_fewest_22 : decode cX8_fewest 22 = .ok (.iconst 0, 1) := by decide +kernel
theorem dX8_fewest_23 : decode cX8_fewest 23 = .ok (.ireturn, 1) := by decide +kernel
theorem dX8_fewest_24 : decode cX8_fewest 24 = .ok (.aload_n 0, 1) := by decide +kernel
theorem dX8_fewest_25 : decode cX8_fewest 25 = .ok (.aload_n 0, 1) := by decide +kernel
theorem dX8_fewest_26 : decode cX8_fewest 26 = .ok (.getfield 13, 3) := by decide +kernel
theorem dX8_fewest_29 : decode cX8_fewest 29 = .ok (.invokevirtual 149, 3) := by decide +kernel
theorem dX8_fewest_32 : decode cX8_fewest 32 = .ok (.istore_n 2, 1) := by decide +kernel
theorem dX8_fewest_33 : decode cX8_fewest 33 = .ok (.iload_n 2, 1) := by decide +kernel
theorem dX8_fewest_34 : decode cX8_fewest 34 = .ok (.iconst (-1), 1) := by decide +kernel
theorem dX8_fewest_35 : decode cX8_fewest 35 = .ok (.if_icmp .ne 7, 3) := by decide +kernel
theorem dX8_fewest_38 : decode cX8_fewest 38 = .ok (.iconst (-1), 1) := by decide +kernel
theorem dX8_fewest_39 : decode cX8_fewest 39 = .ok (.goto 8, 3) := by decide +kernel
theorem dX8_fewest_42 : decode cX8_fewest 42 = .ok (.iload_n 2, 1) := by decide +kernel
theorem dX8_fewest_43 : decode cX8_fewest 43 = .ok (.sipush 10000, 3) := by decide +kernel
theorem dX8_fewest_46 : decode cX8_fewest 46 = .ok (.idiv, 1) := by decide +kernel
theorem dX8_fewest_47 : decode cX8_fewest 47 = .ok (.ireturn, 1) := by decide +kernel
theorem dX8_best_0 : decode cX8_best 0 = .ok (.aload_n 0, 1) := by decide +kernel
theorem dX8_best_1 : decode cX8_best 1 = .ok (.iconst 0, 1) := by decide +kernel
theorem dX8_best_2 : decode cX8_best 2 = .ok (.putfield 36, 3) := by decide +kernel
theorem dX8_best_5 : decode cX8_best 5 = .ok (.aload_n 0, 1) := by decide +kernel
theorem dX8_best_6 : decode cX8_best 6 = .ok (.aload_n 0, 1) := by decide +kernel
theorem dX8_best_7 : decode cX8_best 7 = .ok (.getfield 13, 3) := by decide +kernel
theorem dX8_best_10 : decode cX8_best 10 = .ok (.invokevirtual 149, 3) := by decide +kernel
theorem dX8_best_13 : decode cX8_best 13 = .ok (.invokestatic 152, 3) := by decide +kernel
theorem dX8_best_16 : decode cX8_best 16 = .ok (.ireturn, 1) := by decide +kernel
theorem dX8_ifPressed_0 : decode cX8_ifPressed 0 = .ok (.iconst 1, 1) := by decide +kernel
theorem dX8_ifPressed_1 : decode cX8_ifPressed 1 = .ok (.istore 4, 2) := by decide +kernel
theorem dX8_ifPressed_3 : decode cX8_ifPressed 3 = .ok (.iconst 0, 1) := by decide +kernel
theorem dX8_ifPressed_4 : decode cX8_ifPressed 4 = .ok (.istore 5, 2) := by decide +kernel
theorem dX8_ifPressed_6 : decode cX8_ifPressed 6 = .ok (.iload 5, 2) := by decide +kernel
theorem dX8_ifPressed_8 : decode cX8_ifPressed 8 = .ok (.iload_n 1, 1) := by decide +kernel
theorem dX8_ifPressed_9 : decode cX8_ifPressed 9 = .ok (.if_icmp .ge 22, 3) := by decide +kernel
theorem dX8_ifPressed_12 : decode cX8_ifPressed 12 = .ok (.iload 5, 2) := by decide +kernel
theorem dX8_ifPressed_14 : decode cX8_ifPressed 14 = .ok (.iconst 5, 1) := by decide +kernel
theorem dX8_ifPressed_15 : decode cX8_ifPressed 15 = .ok (.if_icmp .ge 16, 3) := by decide +kernel
theorem dX8_ifPressed_18 : decode cX8_ifPressed 18 = .ok (.iload 4, 2) := by decide +kernel
theorem dX8_ifPressed_20 : decode cX8_ifPressed 20 = .ok (.bipush 10, 2) := by decide +kernel
theorem dX8_ifPressed_22 : decode cX8_ifPressed 22 = .ok (.imul, 1) := by decide +kernel
theorem dX8_ifPressed_23 : decode cX8_ifPressed 23 = .ok (.istore 4, 2) := by decide +kernel
theorem dX8_ifPressed_25 : decode cX8_ifPressed 25 = .ok (.iinc 5 1, 3) := by decide +kernel
theorem dX8_ifPressed_28 : decode cX8_ifPressed 28 = .ok (.goto (-22), 3) := by decide +kernel
theorem dX8_ifPressed_31 : decode cX8_ifPressed 31 = .ok (.aload_n 0, 1) := by decide +kernel
theorem dX8_ifPressed_32 : decode cX8_ifPressed 32 = .ok (.iload_n 1, 1) := by decide +kernel
theorem dX8_ifPressed_33 : decode cX8_ifPressed 33 = .ok (.i2l, 1) := by decide +kernel
theorem dX8_ifPressed_34 : decode cX8_ifPressed 34 = .ok (.lconst 1, 1) := by decide +kernel
theorem dX8_ifPressed_35 : decode cX8_ifPressed 35 = .ok (.ldc2_w 177, 3) := by decide +kernel
theorem dX8_ifPressed_38 : decode cX8_ifPressed 38 = .ok (.invokestatic 40, 3) := by decide +kernel
theorem dX8_ifPressed_41 : decode cX8_ifPressed 41 = .ok (.ifCond .eq 33, 3) := by decide +kernel
theorem dX8_ifPressed_44 : decode cX8_ifPressed 44 = .ok (.iload_n 2, 1) := by decide +kernel
theorem dX8_ifPressed_45 : decode cX8_ifPressed 45 = .ok (.i2l, 1) := by decide +kernel
theorem dX8_ifPressed_46 : decode cX8_ifPressed 46 = .ok (.lconst 0, 1) := by decide +kernel
theorem dX8_ifPressed_47 : decode cX8_ifPressed 47 = .ok (.iload 4, 2) := by decide +kernel
theorem dX8_ifPressed_49 : decode cX8_ifPressed 49 = .ok (.iconst 1, 1) := by decide +kernel
theorem dX8_ifPressed_50 : decode cX8_ifPressed 50 = .ok (.isub, 1) := by decide +kernel
theorem dX8_ifPressed_51 : decode cX8_ifPressed 51 = .ok (.i2l, 1) := by decide +kernel
theorem dX8_ifPressed_52 : decode cX8_ifPressed 52 = .ok (.invokestatic 40, 3) := by decide +kernel
theorem dX8_ifPressed_55 : decode cX8_ifPressed 55 = .ok (.ifCond .eq 19, 3) := by decide +kernel
theorem dX8_ifPressed_58 : decode cX8_ifPressed 58 = .ok (.iload_n 3, 1) := by decide +kernel
theorem dX8_ifPressed_59 : decode cX8_ifPressed 59 = .ok (.i2l, 1) := by decide +kernel
theorem dX8_ifPressed_60 : decode cX8_ifPressed 60 = .ok (.lconst 0, 1) := by decide +kernel
theorem dX8_ifPressed_61 : decode cX8_ifPressed 61 = .ok (.ldc2_w 46, 3) := by decide +kernel
theorem dX8_ifPressed_64 : decode cX8_ifPressed 64 = .ok (.invokestatic 40, 3) := by decide +kernel
theorem dX8_ifPressed_67 : decode cX8_ifPressed 67 = .ok (.ifCond .eq 7, 3) := by decide +kernel
theorem dX8_ifPressed_70 : decode cX8_ifPressed 70 = .ok (.iconst 0, 1) := by decide +kernel
theorem dX8_ifPressed_71 : decode cX8_ifPressed 71 = .ok (.goto 4, 3) := by decide +kernel
theorem dX8_ifPressed_74 : decode cX8_ifPressed 74 = .ok (.iconst 1, 1) := by decide +kernel
theorem dX8_ifPressed_75 : decode cX8_ifPressed 75 = .ok (.invokevirtual 108, 3) := by decide +kernel
theorem dX8_ifPressed_78 : decode cX8_ifPressed 78 = .ok (.ifCond .eq 5, 3) := by decide +kernel
theorem dX8_ifPressed_81 : decode cX8_ifPressed 81 = .ok (.iconst 0, 1) := by decide +kernel
theorem dX8_ifPressed_82 : decode cX8_ifPressed 82 = .ok (.ireturn, 1) := by decide +kernel
theorem dX8_ifPressed_83 : decode cX8_ifPressed 83 = .ok (.aload_n 0, 1) := by decide +kernel
theorem dX8_ifPressed_84 : decode cX8_ifPressed 84 = .ok (.getfield 13, 3) := by decide +kernel
theorem dX8_ifPressed_87 : decode cX8_ifPressed 87 = .ok (.iconst 0, 1) := by decide +kernel
theorem dX8_ifPressed_88 : decode cX8_ifPressed 88 = .ok (.aload_n 0, 1) := by decide +kernel
theorem dX8_ifPressed_89 : decode cX8_ifPressed 89 = .ok (.getfield 16, 3) := by decide +kernel
theorem dX8_ifPressed_92 : decode cX8_ifPressed 92 = .ok (.iconst 0, 1) := by decide +kernel
theorem dX8_ifPressed_93 : decode cX8_ifPressed 93 = .ok (.invokestatic 87, 3) := by decide +kernel
theorem dX8_ifPressed_96 : decode cX8_ifPressed 96 = .ok (.iconst 0, 1) := by decide +kernel
theorem dX8_ifPressed_97 : decode cX8_ifPressed 97 = .ok (.istore 5, 2) := by decide +kernel
theorem dX8_ifPressed_99 : decode cX8_ifPressed 99 = .ok (.iload 5, 2) := by decide +kernel
theorem dX8_ifPressed_101 : decode cX8_ifPressed 101 = .ok (.iload_n 1, 1) := by decide +kernel
theorem dX8_ifPressed_102 : decode cX8_ifPressed 102 = .ok (.if_icmp .ge 58, 3) := by decide +kernel
theorem dX8_ifPressed_105 : decode cX8_ifPressed 105 = .ok (.iload 4, 2) := by decide +kernel
theorem dX8_ifPressed_107 : decode cX8_ifPressed 107 = .ok (.bipush 10, 2) := by decide +kernel
theorem dX8_ifPressed_109 : decode cX8_ifPressed 109 = .ok (.idiv, 1) := by decide +kernel
theorem dX8_ifPressed_110 : decode cX8_ifPressed 110 = .ok (.istore 4, 2) := by decide +kernel
theorem dX8_ifPressed_112 : decode cX8_ifPressed 112 = .ok (.iload_n 2, 1) := by decide +kernel
theorem dX8_ifPressed_113 : decode cX8_ifPressed 113 = .ok (.iload 4, 2) := by decide +kernel
theorem dX8_ifPressed_115 : decode cX8_ifPressed 115 = .ok (.idiv, 1) := by decide +kernel
theorem dX8_ifPressed_116 : decode cX8_ifPressed 116 = .ok (.bipush 10, 2) := by decide +kernel
theorem dX8_ifPressed_118 : decode cX8_ifPressed 118 = .ok (.irem, 1) := by decide +kernel
theorem dX8_ifPressed_119 : decode cX8_ifPressed 119 = .ok (.istore 6, 2) := by decide +kernel
theorem dX8_ifPressed_121 : decode cX8_ifPressed 121 = .ok (.aload_n 0, 1) := by decide +kernel
theorem dX8_ifPressed_122 : decode cX8_ifPressed 122 = .ok (.getfield 16, 3) := by decide +kernel
theorem dX8_ifPressed_125 : decode cX8_ifPressed 125 = .ok (.iload 6, 2) := by decide +kernel
theorem dX8_ifPressed_127 : decode cX8_ifPressed 127 = .ok (.invokestatic 91, 3) := by decide +kernel
theorem dX8_ifPressed_130 : decode cX8_ifPressed 130 = .ok (.ifCond .eq 24, 3) := by decide +kernel
theorem dX8_ifPressed_133 : decode cX8_ifPressed 133 = .ok (.aload_n 0, 1) := by decide +kernel
theorem dX8_ifPressed_134 : decode cX8_ifPressed 134 = .ok (.getfield 16, 3) := by decide +kernel
theorem dX8_ifPressed_137 : decode cX8_ifPressed 137 = .ok (.iload 6, 2) := by decide +kernel
theorem dX8_ifPressed_139 : decode cX8_ifPressed 139 = .ok (.invokestatic 74, 3) := by decide +kernel
theorem dX8_ifPressed_142 : decode cX8_ifPressed 142 = .ok (.ifCond .ne 12, 3) := by decide +kernel
theorem dX8_ifPressed_145 : decode cX8_ifPressed 145 = .ok (.aload_n 0, 1) := by decide +kernel
theorem dX8_ifPressed_146 : decode cX8_ifPressed 146 = .ok (.getfield 16, 3) := by decide +kernel
theorem dX8_ifPressed_149 : decode cX8_ifPressed 149 = .ok (.iload 6, 2) := by decide +kernel
theorem dX8_ifPressed_151 : decode cX8_ifPressed 151 = .ok (.invokestatic 78, 3) := by decide +kernel
theorem dX8_ifPressed_154 : decode cX8_ifPressed 154 = .ok (.iinc 5 1, 3) := by decide +kernel
theorem dX8_ifPressed_157 : decode cX8_ifPressed 157 = .ok (.goto (-58), 3) := by decide +kernel
theorem dX8_ifPressed_160 : decode cX8_ifPressed 160 = .ok (.iload_n 3, 1) := by decide +kernel
theorem dX8_ifPressed_161 : decode cX8_ifPressed 161 = .ok (.tableswitch 76 0 3 #[31, 45, 59, 67], 31) := by decide +kernel
theorem dX8_ifPressed_192 : decode cX8_ifPressed 192 = .ok (.aload_n 0, 1) := by decide +kernel
theorem dX8_ifPressed_193 : decode cX8_ifPressed 193 = .ok (.getfield 16, 3) := by decide +kernel
theorem dX8_ifPressed_196 : decode cX8_ifPressed 196 = .ok (.iconst 3, 1) := by decide +kernel
theorem dX8_ifPressed_197 : decode cX8_ifPressed 197 = .ok (.iaload, 1) := by decide +kernel
theorem dX8_ifPressed_198 : decode cX8_ifPressed 198 = .ok (.aload_n 0, 1) := by decide +kernel
theorem dX8_ifPressed_199 : decode cX8_ifPressed 199 = .ok (.getfield 13, 3) := by decide +kernel
theorem dX8_ifPressed_202 : decode cX8_ifPressed 202 = .ok (.iconst 3, 1) := by decide +kernel
theorem dX8_ifPressed_203 : decode cX8_ifPressed 203 = .ok (.iaload, 1) := by decide +kernel
theorem dX8_ifPressed_204 : decode cX8_ifPressed 204 = .ok (.isub, 1) := by decide +kernel
theorem dX8_ifPressed_205 : decode cX8_ifPressed 205 = .ok (.ireturn, 1) := by decide +kernel
theorem dX8_ifPressed_206 : decode cX8_ifPressed 206 = .ok (.aload_n 0, 1) := by decide +kernel
theorem dX8_ifPressed_207 : decode cX8_ifPressed 207 = .ok (.getfield 16, 3) := by decide +kernel
theorem dX8_ifPressed_210 : decode cX8_ifPressed 210 = .ok (.iconst 2, 1) := by decide +kernel
theorem dX8_ifPressed_211 : decode cX8_ifPressed 211 = .ok (.iaload, 1) := by decide +kernel
theorem dX8_ifPressed_212 : decode cX8_ifPressed 212 = .ok (.aload_n 0, 1) := by decide +kernel
theorem dX8_ifPressed_213 : decode cX8_ifPressed 213 = .ok (.getfield 13, 3) := by decide +kernel
theorem dX8_ifPressed_216 : decode cX8_ifPressed 216 = .ok (.iconst 2, 1) := by decide +kernel
theorem dX8_ifPressed_217 : decode cX8_ifPressed 217 = .ok (.iaload, 1) := by decide +kernel
theorem dX8_ifPressed_218 : decode cX8_ifPressed 218 = .ok (.isub, 1) := by decide +kernel
theorem dX8_ifPressed_219 : decode cX8_ifPressed 219 = .ok (.ireturn, 1) := by decide +kernel
theorem dX8_ifPressed_220 : decode cX8_ifPressed 220 = .ok (.aload_n 0, 1) := by decide +kernel
theorem dX8_ifPressed_221 : decode cX8_ifPressed 221 = .ok (.getfield 16, 3) := by decide +kernel
theorem dX8_ifPressed_224 : decode cX8_ifPressed 224 = .ok (.invokestatic 81, 3) := by decide +kernel
theorem dX8_ifPressed_227 : decode cX8_ifPressed 227 = .ok (.ireturn, 1) := by decide +kernel
theorem dX8_ifPressed_228 : decode cX8_ifPressed 228 = .ok (.aload_n 0, 1) := by decide +kernel
theorem dX8_ifPressed_229 : decode cX8_ifPressed 229 = .ok (.getfield 16, 3) := by decide +kernel
theorem dX8_ifPressed_232 : decode cX8_ifPressed 232 = .ok (.iconst 2, 1) := by decide +kernel
theorem dX8_ifPressed_233 : decode cX8_ifPressed 233 = .ok (.invokestatic 84, 3) := by decide +kernel
theorem dX8_ifPressed_236 : decode cX8_ifPressed 236 = .ok (.ireturn, 1) := by decide +kernel
theorem dX8_ifPressed_237 : decode cX8_ifPressed 237 = .ok (.aload_n 0, 1) := by decide +kernel
theorem dX8_ifPressed_238 : decode cX8_ifPressed 238 = .ok (.getfield 16, 3) := by decide +kernel
theorem dX8_ifPressed_241 : decode cX8_ifPressed 241 = .ok (.iconst 1, 1) := by decide +kernel
theorem dX8_ifPressed_242 : decode cX8_ifPressed 242 = .ok (.iaload, 1) := by decide +kernel
theorem dX8_ifPressed_243 : decode cX8_ifPressed 243 = .ok (.ireturn, 1) := by decide +kernel
theorem dX8_leftStanding_0 : decode cX8_leftStanding 0 = .ok (.aload_n 0, 1) := by decide +kernel
theorem dX8_leftStanding_1 : decode cX8_leftStanding 1 = .ok (.aload_n 0, 1) := by decide +kernel
theorem dX8_leftStanding_2 : decode cX8_leftStanding 2 = .ok (.getfield 13, 3) := by decide +kernel
theorem dX8_leftStanding_5 : decode cX8_leftStanding 5 = .ok (.iload_n 1, 1) := by decide +kernel
theorem dX8_leftStanding_6 : decode cX8_leftStanding 6 = .ok (.invokestatic 91, 3) := by decide +kernel
theorem dX8_leftStanding_9 : decode cX8_leftStanding 9 = .ok (.ifCond .eq 7, 3) := by decide +kernel
theorem dX8_leftStanding_12 : decode cX8_leftStanding 12 = .ok (.iconst 0, 1) := by decide +kernel
theorem dX8_leftStanding_13 : decode cX8_leftStanding 13 = .ok (.goto 4, 3) := by decide +kernel
theorem dX8_leftStanding_16 : decode cX8_leftStanding 16 = .ok (.iconst 1, 1) := by decide +kernel
theorem dX8_leftStanding_17 : decode cX8_leftStanding 17 = .ok (.invokevirtual 108, 3) := by decide +kernel
theorem dX8_leftStanding_20 : decode cX8_leftStanding 20 = .ok (.ifCond .eq 5, 3) := by decide +kernel
theorem dX8_leftStanding_23 : decode cX8_leftStanding 23 = .ok (.iconst 0, 1) := by decide +kernel
theorem dX8_leftStanding_24 : decode cX8_leftStanding 24 = .ok (.ireturn, 1) := by decide +kernel
theorem dX8_leftStanding_25 : decode cX8_leftStanding 25 = .ok (.aload_n 0, 1) := by decide +kernel
theorem dX8_leftStanding_26 : decode cX8_leftStanding 26 = .ok (.getfield 13, 3) := by decide +kernel
theorem dX8_leftStanding_29 : decode cX8_leftStanding 29 = .ok (.iload_n 1, 1) := by decide +kernel
theorem dX8_leftStanding_30 : decode cX8_leftStanding 30 = .ok (.iconst 0, 1) := by decide +kernel
theorem dX8_leftStanding_31 : decode cX8_leftStanding 31 = .ok (.invokestatic 52, 3) := by decide +kernel
theorem dX8_leftStanding_34 : decode cX8_leftStanding 34 = .ok (.aload_n 0, 1) := by decide +kernel
theorem dX8_leftStanding_35 : decode cX8_leftStanding 35 = .ok (.getfield 13, 3) := by decide +kernel
theorem dX8_leftStanding_38 : decode cX8_leftStanding 38 = .ok (.iconst 1, 1) := by decide +kernel
theorem dX8_leftStanding_39 : decode cX8_leftStanding 39 = .ok (.iaload, 1) := by decide +kernel
theorem dX8_leftStanding_40 : decode cX8_leftStanding 40 = .ok (.if_icmp .ne 5, 3) := by decide +kernel
theorem dX8_leftStanding_43 : decode cX8_leftStanding 43 = .ok (.iconst 0, 1) := by decide +kernel
theorem dX8_leftStanding_44 : decode cX8_leftStanding 44 = .ok (.ireturn, 1) := by decide +kernel
theorem dX8_leftStanding_45 : decode cX8_leftStanding 45 = .ok (.aload_n 0, 1) := by decide +kernel
theorem dX8_leftStanding_46 : decode cX8_leftStanding 46 = .ok (.getfield 13, 3) := by decide +kernel
theorem dX8_leftStanding_49 : decode cX8_leftStanding 49 = .ok (.iconst 0, 1) := by decide +kernel
theorem dX8_leftStanding_50 : decode cX8_leftStanding 50 = .ok (.aload_n 0, 1) := by decide +kernel
theorem dX8_leftStanding_51 : decode cX8_leftStanding 51 = .ok (.getfield 16, 3) := by decide +kernel
theorem dX8_leftStanding_54 : decode cX8_leftStanding 54 = .ok (.iconst 0, 1) := by decide +kernel
theorem dX8_leftStanding_55 : decode cX8_leftStanding 55 = .ok (.invokestatic 87, 3) := by decide +kernel
theorem dX8_leftStanding_58 : decode cX8_leftStanding 58 = .ok (.aload_n 0, 1) := by decide +kernel
theorem dX8_leftStanding_59 : decode cX8_leftStanding 59 = .ok (.getfield 16, 3) := by decide +kernel
theorem dX8_leftStanding_62 : decode cX8_leftStanding 62 = .ok (.iload_n 1, 1) := by decide +kernel
theorem dX8_leftStanding_63 : decode cX8_leftStanding 63 = .ok (.invokestatic 78, 3) := by decide +kernel
theorem dX8_leftStanding_66 : decode cX8_leftStanding 66 = .ok (.iconst 0, 1) := by decide +kernel
theorem dX8_leftStanding_67 : decode cX8_leftStanding 67 = .ok (.istore_n 2, 1) := by decide +kernel
theorem dX8_leftStanding_68 : decode cX8_leftStanding 68 = .ok (.iconst 0, 1) := by decide +kernel
theorem dX8_leftStanding_69 : decode cX8_leftStanding 69 = .ok (.istore_n 3, 1) := by decide +kernel
theorem dX8_leftStanding_70 : decode cX8_leftStanding 70 = .ok (.iload_n 3, 1) := by decide +kernel
theorem dX8_leftStanding_71 : decode cX8_leftStanding 71 = .ok (.aload_n 0, 1) := by decide +kernel
theorem dX8_leftStanding_72 : decode cX8_leftStanding 72 = .ok (.getfield 16, 3) := by decide +kernel
theorem dX8_leftStanding_75 : decode cX8_leftStanding 75 = .ok (.iconst 0, 1) := by decide +kernel
theorem dX8_leftStanding_76 : decode cX8_leftStanding 76 = .ok (.iaload, 1) := by decide +kernel
theorem dX8_leftStanding_77 : decode cX8_leftStanding 77 = .ok (.if_icmp .ge 49, 3) := by decide +kernel
theorem dX8_leftStanding_80 : decode cX8_leftStanding 80 = .ok (.iload_n 2, 1) := by decide +kernel
theorem dX8_leftStanding_81 : decode cX8_leftStanding 81 = .ok (.aload_n 0, 1) := by decide +kernel
theorem dX8_leftStanding_82 : decode cX8_leftStanding 82 = .ok (.getfield 16, 3) := by decide +kernel
theorem dX8_leftStanding_85 : decode cX8_leftStanding 85 = .ok (.iload_n 3, 1) := by decide +kernel
theorem dX8_leftStanding_86 : decode cX8_leftStanding 86 = .ok (.iconst 3, 1) := by decide +kernel
theorem dX8_leftStanding_87 : decode cX8_leftStanding 87 = .ok (.invokestatic 52, 3) := by decide +kernel
theorem dX8_leftStanding_90 : decode cX8_leftStanding 90 = .ok (.ifCond .ne 27, 3) := by decide +kernel
theorem dX8_leftStanding_93 : decode cX8_leftStanding 93 = .ok (.aload_n 0, 1) := by decide +kernel
theorem dX8_leftStanding_94 : decode cX8_leftStanding 94 = .ok (.getfield 16, 3) := by decide +kernel
theorem dX8_leftStanding_97 : decode cX8_leftStanding 97 = .ok (.iload_n 3, 1) := by decide +kernel
theorem dX8_leftStanding_98 : decode cX8_leftStanding 98 = .ok (.iconst 4, 1) := by decide +kernel
theorem dX8_leftStanding_99 : decode cX8_leftStanding 99 = .ok (.invokestatic 52, 3) := by decide +kernel
theorem dX8_leftStanding_102 : decode cX8_leftStanding 102 = .ok (.aload_n 0, 1) := by decide +kernel
theorem dX8_leftStanding_103 : decode cX8_leftStanding 103 = .ok (.getfield 16, 3) := by decide +kernel
theorem dX8_leftStanding_106 : decode cX8_leftStanding 106 = .ok (.iconst 1, 1) := by decide +kernel
theorem dX8_leftStanding_107 : decode cX8_leftStanding 107 = .ok (.iaload, 1) := by decide +kernel
theorem dX8_leftStanding_108 : decode cX8_leftStanding 108 = .ok (.if_icmp .ne 9, 3) := by decide +kernel
theorem dX8_leftStanding_111 : decode cX8_leftStanding 111 = .ok (.iconst 1, 1) := by decide +kernel
theorem dX8_leftStanding_112 : decode cX8_leftStanding 112 = .ok (.iload_n 3, 1) := by decide +kernel
theorem dX8_leftStanding_113 : decode cX8_leftStanding 113 = .ok (.ishl, 1) := by decide +kernel
theorem dX8_leftStanding_114 : decode cX8_leftStanding 114 = .ok (.goto 4, 3) := by decide +kernel
theorem dX8_leftStanding_117 : decode cX8_leftStanding 117 = .ok (.iconst 0, 1) := by decide +kernel
theorem dX8_leftStanding_118 : decode cX8_leftStanding 118 = .ok (.ior, 1) := by decide +kernel
theorem dX8_leftStanding_119 : decode cX8_leftStanding 119 = .ok (.istore_n 2, 1) := by decide +kernel
theorem dX8_leftStanding_120 : decode cX8_leftStanding 120 = .ok (.iinc 3 1, 3) := by decide +kernel
theorem dX8_leftStanding_123 : decode cX8_leftStanding 123 = .ok (.goto (-53), 3) := by decide +kernel
theorem dX8_leftStanding_126 : decode cX8_leftStanding 126 = .ok (.iload_n 2, 1) := by decide +kernel
theorem dX8_leftStanding_127 : decode cX8_leftStanding 127 = .ok (.ireturn, 1) := by decide +kernel
theorem dX8_commandGuest_0 : decode cX8_commandGuest 0 = .ok (.iload_n 1, 1) := by decide +kernel
theorem dX8_commandGuest_1 : decode cX8_commandGuest 1 = .ok (.tableswitch 103 2 6 #[35, 103, 56, 103, 77], 35) := by decide +kernel
theorem dX8_commandGuest_36 : decode cX8_commandGuest 36 = .ok (.iload_n 3, 1) := by decide +kernel
theorem dX8_commandGuest_37 : decode cX8_commandGuest 37 = .ok (.ifCond .ne 18, 3) := by decide +kernel
theorem dX8_commandGuest_40 : decode cX8_commandGuest 40 = .ok (.aload_n 0, 1) := by decide +kernel
theorem dX8_commandGuest_41 : decode cX8_commandGuest 41 = .ok (.getfield 16, 3) := by decide +kernel
theorem dX8_commandGuest_44 : decode cX8_commandGuest 44 = .ok (.iload_n 2, 1) := by decide +kernel
theorem dX8_commandGuest_45 : decode cX8_commandGuest 45 = .ok (.invokestatic 133, 3) := by decide +kernel
theorem dX8_commandGuest_48 : decode cX8_commandGuest 48 = .ok (.ifCond .ne 7, 3) := by decide +kernel
theorem dX8_commandGuest_51 : decode cX8_commandGuest 51 = .ok (.iconst 1, 1) := by decide +kernel
theorem dX8_commandGuest_52 : decode cX8_commandGuest 52 = .ok (.goto 4, 3) := by decide +kernel
theorem dX8_commandGuest_55 : decode cX8_commandGuest 55 = .ok (.iconst 0, 1) := by decide +kernel
theorem dX8_commandGuest_56 : decode cX8_commandGuest 56 = .ok (.ireturn, 1) := by decide +kernel
theorem dX8_commandGuest_57 : decode cX8_commandGuest 57 = .ok (.iload_n 3, 1) := by decide +kernel
theorem dX8_commandGuest_58 : decode cX8_commandGuest 58 = .ok (.ifCond .ne 18, 3) := by decide +kernel
theorem dX8_commandGuest_61 : decode cX8_commandGuest 61 = .ok (.aload_n 0, 1) := by decide +kernel
theorem dX8_commandGuest_62 : decode cX8_commandGuest 62 = .ok (.getfield 16, 3) := by decide +kernel
theorem dX8_commandGuest_65 : decode cX8_commandGuest 65 = .ok (.iload_n 2, 1) := by decide +kernel
theorem dX8_commandGuest_66 : decode cX8_commandGuest 66 = .ok (.invokestatic 139, 3) := by decide +kernel
theorem dX8_commandGuest_69 : decode cX8_commandGuest 69 = .ok (.ifCond .lt 7, 3) := by decide +kernel
theorem dX8_commandGuest_72 : decode cX8_commandGuest 72 = .ok (.iconst 1, 1) := by decide +kernel
theorem dX8_commandGuest_73 : decode cX8_commandGuest 73 = .ok (.goto 4, 3) := by decide +kernel
theorem dX8_commandGuest_76 : decode cX8_commandGuest 76 = .ok (.iconst 0, 1) := by decide +kernel
theorem dX8_commandGuest_77 : decode cX8_commandGuest 77 = .ok (.ireturn, 1) := by decide +kernel
theorem dX8_commandGuest_78 : decode cX8_commandGuest 78 = .ok (.iload_n 3, 1) := by decide +kernel
theorem dX8_commandGuest_79 : decode cX8_commandGuest 79 = .ok (.bipush 10, 2) := by decide +kernel
theorem dX8_commandGuest_81 : decode cX8_commandGuest 81 = .ok (.if_icmp .ge 21, 3) := by decide +kernel
theorem dX8_commandGuest_84 : decode cX8_commandGuest 84 = .ok (.aload_n 0, 1) := by decide +kernel
theorem dX8_commandGuest_85 : decode cX8_commandGuest 85 = .ok (.getfield 16, 3) := by decide +kernel
theorem dX8_commandGuest_88 : decode cX8_commandGuest 88 = .ok (.iload_n 2, 1) := by decide +kernel
theorem dX8_commandGuest_89 : decode cX8_commandGuest 89 = .ok (.iconst 3, 1) := by decide +kernel
theorem dX8_commandGuest_90 : decode cX8_commandGuest 90 = .ok (.invokestatic 52, 3) := by decide +kernel
theorem dX8_commandGuest_93 : decode cX8_commandGuest 93 = .ok (.iload 4, 2) := by decide +kernel
theorem dX8_commandGuest_95 : decode cX8_commandGuest 95 = .ok (.if_icmp .ne 7, 3) := by decide +kernel
theorem dX8_commandGuest_98 : decode cX8_commandGuest 98 = .ok (.iconst 1, 1) := by decide +kernel
theorem dX8_commandGuest_99 : decode cX8_commandGuest 99 = .ok (.goto 4, 3) := by decide +kernel
theorem dX8_commandGuest_102 : decode cX8_commandGuest 102 = .ok (.iconst 0, 1) := by decide +kernel
theorem dX8_commandGuest_103 : decode cX8_commandGuest 103 = .ok (.ireturn, 1) := by decide +kernel
theorem dX8_commandGuest_104 : decode cX8_commandGuest 104 = .ok (.iload_n 3, 1) := by decide +kernel
theorem dX8_commandGuest_105 : decode cX8_commandGuest 105 = .ok (.bipush 10, 2) := by decide +kernel
theorem dX8_commandGuest_107 : decode cX8_commandGuest 107 = .ok (.if_icmp .ge 21, 3) := by decide +kernel
theorem dX8_commandGuest_110 : decode cX8_commandGuest 110 = .ok (.aload_n 0, 1) := by decide +kernel
theorem dX8_commandGuest_111 : decode cX8_commandGuest 111 = .ok (.getfield 16, 3) := by decide +kernel
theorem dX8_commandGuest_114 : decode cX8_commandGuest 114 = .ok (.iload_n 2, 1) := by decide +kernel
theorem dX8_commandGuest_115 : decode cX8_commandGuest 115 = .ok (.iconst 5, 1) := by decide +kernel
theorem dX8_commandGuest_116 : decode cX8_commandGuest 116 = .ok (.invokestatic 52, 3) := by decide +kernel
theorem dX8_commandGuest_119 : decode cX8_commandGuest 119 = .ok (.iload 4, 2) := by decide +kernel
theorem dX8_commandGuest_121 : decode cX8_commandGuest 121 = .ok (.if_icmp .gt 7, 3) := by decide +kernel
theorem dX8_commandGuest_124 : decode cX8_commandGuest 124 = .ok (.iconst 1, 1) := by decide +kernel
theorem dX8_commandGuest_125 : decode cX8_commandGuest 125 = .ok (.goto 4, 3) := by decide +kernel
theorem dX8_commandGuest_128 : decode cX8_commandGuest 128 = .ok (.iconst 0, 1) := by decide +kernel
theorem dX8_commandGuest_129 : decode cX8_commandGuest 129 = .ok (.ireturn, 1) := by decide +kernel
theorem dX8_command_0 : decode cX8_command 0 = .ok (.iload_n 2, 1) := by decide +kernel
theorem dX8_command_1 : decode cX8_command 1 = .ok (.sipush 1000, 3) := by decide +kernel
theorem dX8_command_4 : decode cX8_command 4 = .ok (.idiv, 1) := by decide +kernel
theorem dX8_command_5 : decode cX8_command 5 = .ok (.istore_n 3, 1) := by decide +kernel
theorem dX8_command_6 : decode cX8_command 6 = .ok (.iload_n 2, 1) := by decide +kernel
theorem dX8_command_7 : decode cX8_command 7 = .ok (.bipush 100, 2) := by decide +kernel
theorem dX8_command_9 : decode cX8_command 9 = .ok (.idiv, 1) := by decide +kernel
theorem dX8_command_10 : decode cX8_command 10 = .ok (.bipush 10, 2) := by decide +kernel
theorem dX8_command_12 : decode cX8_command 12 = .ok (.irem, 1) := by decide +kernel
theorem dX8_command_13 : decode cX8_command 13 = .ok (.istore 4, 2) := by decide +kernel
theorem dX8_command_15 : decode cX8_command 15 = .ok (.iload_n 2, 1) := by decide +kernel
theorem dX8_command_16 : decode cX8_command 16 = .ok (.bipush 10, 2) := by decide +kernel
theorem dX8_command_18 : decode cX8_command 18 = .ok (.idiv, 1) := by decide +kernel
theorem dX8_command_19 : decode cX8_command 19 = .ok (.bipush 10, 2) := by decide +kernel
theorem dX8_command_21 : decode cX8_command 21 = .ok (.irem, 1) := by decide +kernel
theorem dX8_command_22 : decode cX8_command 22 = .ok (.istore 5, 2) := by decide +kernel
theorem dX8_command_24 : decode cX8_command 24 = .ok (.iload_n 2, 1) := by decide +kernel
theorem dX8_command_25 : decode cX8_command 25 = .ok (.bipush 10, 2) := by decide +kernel
theorem dX8_command_27 : decode cX8_command 27 = .ok (.irem, 1) := by decide +kernel
theorem dX8_command_28 : decode cX8_command 28 = .ok (.istore 6, 2) := by decide +kernel
theorem dX8_command_30 : decode cX8_command 30 = .ok (.iload_n 2, 1) := by decide +kernel
theorem dX8_command_31 : decode cX8_command 31 = .ok (.bipush 100, 2) := by decide +kernel
theorem dX8_command_33 : decode cX8_command 33 = .ok (.irem, 1) := by decide +kernel
theorem dX8_command_34 : decode cX8_command 34 = .ok (.istore 7, 2) := by decide +kernel
theorem dX8_command_36 : decode cX8_command 36 = .ok (.iload_n 1, 1) := by decide +kernel
theorem dX8_command_37 : decode cX8_command 37 = .ok (.tableswitch 274 1 9 #[51, 120, 153, 120, 194, 120, 120, 227, 251], 51) := by decide +kernel
theorem dX8_command_88 : decode cX8_command 88 = .ok (.iload_n 3, 1) := by decide +kernel
theorem dX8_command_89 : decode cX8_command 89 = .ok (.invokestatic 169, 3) := by decide +kernel
theorem dX8_command_92 : decode cX8_command 92 = .ok (.ifCond .eq 63, 3) := by decide +kernel
theorem dX8_command_95 : decode cX8_command 95 = .ok (.iload 4, 2) := by decide +kernel
theorem dX8_command_97 : decode cX8_command 97 = .ok (.invokestatic 169, 3) := by decide +kernel
theorem dX8_command_100 : decode cX8_command 100 = .ok (.ifCond .eq 55, 3) := by decide +kernel
theorem dX8_command_103 : decode cX8_command 103 = .ok (.iload 5, 2) := by decide +kernel
theorem dX8_command_105 : decode cX8_command 105 = .ok (.invokestatic 169, 3) := by decide +kernel
theorem dX8_command_108 : decode cX8_command 108 = .ok (.ifCond .eq 47, 3) := by decide +kernel
theorem dX8_command_111 : decode cX8_command 111 = .ok (.iload 6, 2) := by decide +kernel
theorem dX8_command_113 : decode cX8_command 113 = .ok (.i2l, 1) := by decide +kernel
theorem dX8_command_114 : decode cX8_command 114 = .ok (.lconst 1, 1) := by decide +kernel
theorem dX8_command_115 : decode cX8_command 115 = .ok (.ldc2_w 46, 3) := by decide +kernel
theorem dX8_command_118 : decode cX8_command 118 = .ok (.invokestatic 40, 3) := by decide +kernel
theorem dX8_command_121 : decode cX8_command 121 = .ok (.ifCond .eq 34, 3) := by decide +kernel
theorem dX8_command_124 : decode cX8_command 124 = .ok (.aload_n 0, 1) := by decide +kernel
theorem dX8_command_125 : decode cX8_command 125 = .ok (.getfield 16, 3) := by decide +kernel
theorem dX8_command_128 : decode cX8_command 128 = .ok (.iconst 0, 1) := by decide +kernel
theorem dX8_command_129 : decode cX8_command 129 = .ok (.iaload, 1) := by decide +kernel
theorem dX8_command_130 : decode cX8_command 130 = .ok (.iconst 4, 1) := by decide +kernel
theorem dX8_command_131 : decode cX8_command 131 = .ok (.if_icmp .ge 24, 3) := by decide +kernel
theorem dX8_command_134 : decode cX8_command 134 = .ok (.aload_n 0, 1) := by decide +kernel
theorem dX8_command_135 : decode cX8_command 135 = .ok (.getfield 16, 3) := by decide +kernel
theorem dX8_command_138 : decode cX8_command 138 = .ok (.iload_n 3, 1) := by decide +kernel
theorem dX8_command_139 : decode cX8_command 139 = .ok (.iload 4, 2) := by decide +kernel
theorem dX8_command_141 : decode cX8_command 141 = .ok (.iload 5, 2) := by decide +kernel
theorem dX8_command_143 : decode cX8_command 143 = .ok (.iload 6, 2) := by decide +kernel
theorem dX8_command_145 : decode cX8_command 145 = .ok (.invokestatic 122, 3) := by decide +kernel
theorem dX8_command_148 : decode cX8_command 148 = .ok (.ifCond .lt 7, 3) := by decide +kernel
theorem dX8_command_151 : decode cX8_command 151 = .ok (.iconst 1, 1) := by decide +kernel
theorem dX8_command_152 : decode cX8_command 152 = .ok (.goto 4, 3) := by decide +kernel
theorem dX8_command_155 : decode cX8_command 155 = .ok (.iconst 0, 1) := by decide +kernel
theorem dX8_command_156 : decode cX8_command 156 = .ok (.ireturn, 1) := by decide +kernel
theorem dX8_command_157 : decode cX8_command 157 = .ok (.aload_n 0, 1) := by decide +kernel
theorem dX8_command_158 : decode cX8_command 158 = .ok (.getfield 16, 3) := by decide +kernel
theorem dX8_command_161 : decode cX8_command 161 = .ok (.iload_n 3, 1) := by decide +kernel
theorem dX8_command_162 : decode cX8_command 162 = .ok (.invokestatic 91, 3) := by decide +kernel
theorem dX8_command_165 : decode cX8_command 165 = .ok (.ifCond .eq 23, 3) := by decide +kernel
theorem dX8_command_168 : decode cX8_command 168 = .ok (.aload_n 0, 1) := by decide +kernel
theorem dX8_command_169 : decode cX8_command 169 = .ok (.iload_n 1, 1) := by decide +kernel
theorem dX8_command_170 : decode cX8_command 170 = .ok (.iload_n 3, 1) := by decide +kernel
theorem dX8_command_171 : decode cX8_command 171 = .ok (.iload_n 2, 1) := by decide +kernel
theorem dX8_command_172 : decode cX8_command 172 = .ok (.sipush 1000, 3) := by decide +kernel
theorem dX8_command_175 : decode cX8_command 175 = .ok (.irem, 1) := by decide +kernel
theorem dX8_command_176 : decode cX8_command 176 = .ok (.iload 6, 2) := by decide +kernel
theorem dX8_command_178 : decode cX8_command 178 = .ok (.invokevirtual 179, 3) := by decide +kernel
theorem dX8_command_181 : decode cX8_command 181 = .ok (.ifCond .eq 7, 3) := by decide +kernel
theorem dX8_command_184 : decode cX8_command 184 = .ok (.iconst 1, 1) := by decide +kernel
theorem dX8_command_185 : decode cX8_command 185 = .ok (.goto 4, 3) := by decide +kernel
theorem dX8_command_188 : decode cX8_command 188 = .ok (.iconst 0, 1) := by decide +kernel
theorem dX8_command_189 : decode cX8_command 189 = .ok (.ireturn, 1) := by decide +kernel
theorem dX8_command_190 : decode cX8_command 190 = .ok (.iconst 0, 1) := by decide +kernel
theorem dX8_command_191 : decode cX8_command 191 = .ok (.istore 8, 2) := by decide +kernel
theorem dX8_command_193 : decode cX8_command 193 = .ok (.iload 8, 2) := by decide +kernel
theorem dX8_command_195 : decode cX8_command 195 = .ok (.iload_n 2, 1) := by decide +kernel
theorem dX8_command_196 : decode cX8_command 196 = .ok (.if_icmp .ge 23, 3) := by decide +kernel
theorem dX8_command_199 : decode cX8_command 199 = .ok (.iload_n 2, 1) := by decide +kernel
theorem dX8_command_200 : decode cX8_command 200 = .ok (.bipush 10, 2) := by decide +kernel
theorem dX8_command_202 : decode cX8_command 202 = .ok (.if_icmp .ge 17, 3) := by decide +kernel
theorem dX8_command_205 : decode cX8_command 205 = .ok (.aload_n 0, 1) := by decide +kernel
theorem dX8_command_206 : decode cX8_command 206 = .ok (.getfield 16, 3) := by decide +kernel
theorem dX8_command_209 : decode cX8_command 209 = .ok (.invokestatic 136, 3) := by decide +kernel
theorem dX8_command_212 : decode cX8_command 212 = .ok (.pop, 1) := by decide +kernel
theorem dX8_command_213 : decode cX8_command 213 = .ok (.iinc 8 1, 3) := by decide +kernel
theorem dX8_command_216 : decode cX8_command 216 = .ok (.goto (-23), 3) := by decide +kernel
theorem dX8_command_219 : decode cX8_command 219 = .ok (.iload_n 2, 1) := by decide +kernel
theorem dX8_command_220 : decode cX8_command 220 = .ok (.bipush 10, 2) := by decide +kernel
theorem dX8_command_222 : decode cX8_command 222 = .ok (.if_icmp .ge 7, 3) := by decide +kernel
theorem dX8_command_225 : decode cX8_command 225 = .ok (.iconst 1, 1) := by decide +kernel
theorem dX8_command_226 : decode cX8_command 226 = .ok (.goto 4, 3) := by decide +kernel
theorem dX8_command_229 : decode cX8_command 229 = .ok (.iconst 0, 1) := by decide +kernel
theorem dX8_command_230 : decode cX8_command 230 = .ok (.ireturn, 1) := by decide +kernel
theorem dX8_command_231 : decode cX8_command 231 = .ok (.iload 4, 2) := by decide +kernel
theorem dX8_command_233 : decode cX8_command 233 = .ok (.ifCond .ne 29, 3) := by decide +kernel
theorem dX8_command_236 : decode cX8_command 236 = .ok (.iload_n 3, 1) := by decide +kernel
theorem dX8_command_237 : decode cX8_command 237 = .ok (.iload 7, 2) := by decide +kernel
theorem dX8_command_239 : decode cX8_command 239 = .ok (.invokestatic 142, 3) := by decide +kernel
theorem dX8_command_242 : decode cX8_command 242 = .ok (.ifCond .eq 20, 3) := by decide +kernel
theorem dX8_command_245 : decode cX8_command 245 = .ok (.aload_n 0, 1) := by decide +kernel
theorem dX8_command_246 : decode cX8_command 246 = .ok (.getfield 16, 3) := by decide +kernel
theorem dX8_command_249 : decode cX8_command 249 = .ok (.iload_n 3, 1) := by decide +kernel
theorem dX8_command_250 : decode cX8_command 250 = .ok (.iload 7, 2) := by decide +kernel
theorem dX8_command_252 : decode cX8_command 252 = .ok (.invokestatic 146, 3) := by decide +kernel
theorem dX8_command_255 : decode cX8_command 255 = .ok (.ifCond .lt 7, 3) := by decide +kernel
theorem dX8_command_258 : decode cX8_command 258 = .ok (.iconst 1, 1) := by decide +kernel
theorem dX8_command_259 : decode cX8_command 259 = .ok (.goto 4, 3) := by decide +kernel
theorem dX8_command_262 : decode cX8_command 262 = .ok (.iconst 0, 1) := by decide +kernel
theorem dX8_command_263 : decode cX8_command 263 = .ok (.ireturn, 1) := by decide +kernel
theorem dX8_command_264 : decode cX8_command 264 = .ok (.iload_n 2, 1) := by decide +kernel
theorem dX8_command_265 : decode cX8_command 265 = .ok (.bipush 10, 2) := by decide +kernel
theorem dX8_command_267 : decode cX8_command 267 = .ok (.if_icmp .ge 19, 3) := by decide +kernel
theorem dX8_command_270 : decode cX8_command 270 = .ok (.aload_n 0, 1) := by decide +kernel
theorem dX8_command_271 : decode cX8_command 271 = .ok (.getfield 16, 3) := by decide +kernel
theorem dX8_command_274 : decode cX8_command 274 = .ok (.iconst 2, 1) := by decide +kernel
theorem dX8_command_275 : decode cX8_command 275 = .ok (.invokestatic 84, 3) := by decide +kernel
theorem dX8_command_278 : decode cX8_command 278 = .ok (.iload_n 2, 1) := by decide +kernel
theorem dX8_command_279 : decode cX8_command 279 = .ok (.if_icmp .lt 7, 3) := by decide +kernel
theorem dX8_command_282 : decode cX8_command 282 = .ok (.iconst 1, 1) := by decide +kernel
theorem dX8_command_283 : decode cX8_command 283 = .ok (.goto 4, 3) := by decide +kernel
theorem dX8_command_286 : decode cX8_command 286 = .ok (.iconst 0, 1) := by decide +kernel
theorem dX8_command_287 : decode cX8_command 287 = .ok (.ireturn, 1) := by decide +kernel
theorem dX8_command_288 : decode cX8_command 288 = .ok (.iload_n 2, 1) := by decide +kernel
theorem dX8_command_289 : decode cX8_command 289 = .ok (.sipush 1000, 3) := by decide +kernel
theorem dX8_command_292 : decode cX8_command 292 = .ok (.if_icmp .ge 17, 3) := by decide +kernel
theorem dX8_command_295 : decode cX8_command 295 = .ok (.aload_n 0, 1) := by decide +kernel
theorem dX8_command_296 : decode cX8_command 296 = .ok (.getfield 16, 3) := by decide +kernel
theorem dX8_command_299 : decode cX8_command 299 = .ok (.iconst 2, 1) := by decide +kernel
theorem dX8_command_300 : decode cX8_command 300 = .ok (.iaload, 1) := by decide +kernel
theorem dX8_command_301 : decode cX8_command 301 = .ok (.iload_n 2, 1) := by decide +kernel
theorem dX8_command_302 : decode cX8_command 302 = .ok (.if_icmp .gt 7, 3) := by decide +kernel
theorem dX8_command_305 : decode cX8_command 305 = .ok (.iconst 1, 1) := by decide +kernel
theorem dX8_command_306 : decode cX8_command 306 = .ok (.goto 4, 3) := by decide +kernel
theorem dX8_command_309 : decode cX8_command 309 = .ok (.iconst 0, 1) := by decide +kernel
theorem dX8_command_310 : decode cX8_command 310 = .ok (.ireturn, 1) := by decide +kernel
theorem dX8_command_311 : decode cX8_command 311 = .ok (.iconst 0, 1) := by decide +kernel
theorem dX8_command_312 : decode cX8_command 312 = .ok (.ireturn, 1) := by decide +kernel
theorem dX8_runScript_0 : decode cX8_runScript 0 = .ok (.lconst 1, 1) := by decide +kernel
theorem dX8_runScript_1 : decode cX8_runScript 1 = .ok (.lstore 4, 2) := by decide +kernel
theorem dX8_runScript_3 : decode cX8_runScript 3 = .ok (.iconst 0, 1) := by decide +kernel
theorem dX8_runScript_4 : decode cX8_runScript 4 = .ok (.istore 6, 2) := by decide +kernel
theorem dX8_runScript_6 : decode cX8_runScript 6 = .ok (.iload 6, 2) := by decide +kernel
theorem dX8_runScript_8 : decode cX8_runScript 8 = .ok (.iload_n 1, 1) := by decide +kernel
theorem dX8_runScript_9 : decode cX8_runScript 9 = .ok (.if_icmp .ge 23, 3) := by decide +kernel
theorem dX8_runScript_12 : decode cX8_runScript 12 = .ok (.iload 6, 2) := by decide +kernel
theorem dX8_runScript_14 : decode cX8_runScript 14 = .ok (.iconst 3, 1) := by decide +kernel
theorem dX8_runScript_15 : decode cX8_runScript 15 = .ok (.if_icmp .ge 17, 3) := by decide +kernel
theorem dX8_runScript_18 : decode cX8_runScript 18 = .ok (.lload 4, 2) := by decide +kernel
theorem dX8_runScript_20 : decode cX8_runScript 20 = .ok (.ldc2_w 183, 3) := by decide +kernel
theorem dX8_runScript_23 : decode cX8_runScript 23 = .ok (.lmul, 1) := by decide +kernel
theorem dX8_runScript_24 : decode cX8_runScript 24 = .ok (.lstore 4, 2) := by decide +kernel
theorem dX8_runScript_26 : decode cX8_runScript 26 = .ok (.iinc 6 1, 3) := by decide +kernel
theorem dX8_runScript_29 : decode cX8_runScript 29 = .ok (.goto (-23), 3) := by decide +kernel
theorem dX8_runScript_32 : decode cX8_runScript 32 = .ok (.aload_n 0, 1) := by decide +kernel
theorem dX8_runScript_33 : decode cX8_runScript 33 = .ok (.iload_n 1, 1) := by decide +kernel
theorem dX8_runScript_34 : decode cX8_runScript 34 = .ok (.i2l, 1) := by decide +kernel
theorem dX8_runScript_35 : decode cX8_runScript 35 = .ok (.lconst 1, 1) := by decide +kernel
theorem dX8_runScript_36 : decode cX8_runScript 36 = .ok (.ldc2_w 185, 3) := by decide +kernel
theorem dX8_runScript_39 : decode cX8_runScript 39 = .ok (.invokestatic 40, 3) := by decide +kernel
theorem dX8_runScript_42 : decode cX8_runScript 42 = .ok (.ifCond .eq 19, 3) := by decide +kernel
theorem dX8_runScript_45 : decode cX8_runScript 45 = .ok (.lload_n 2, 1) := by decide +kernel
theorem dX8_runScript_46 : decode cX8_runScript 46 = .ok (.lconst 0, 1) := by decide +kernel
theorem dX8_runScript_47 : decode cX8_runScript 47 = .ok (.lload 4, 2) := by decide +kernel
theorem dX8_runScript_49 : decode cX8_runScript 49 = .ok (.lconst 1, 1) := by decide +kernel
theorem dX8_runScript_50 : decode cX8_runScript 50 = .ok (.lsub, 1) := by decide +kernel
theorem dX8_runScript_51 : decode cX8_runScript 51 = .ok (.invokestatic 40, 3) := by decide +kernel
theorem dX8_runScript_54 : decode cX8_runScript 54 = .ok (.ifCond .eq 7, 3) := by decide +kernel
theorem dX8_runScript_57 : decode cX8_runScript 57 = .ok (.iconst 0, 1) := by decide +kernel
theorem dX8_runScript_58 : decode cX8_runScript 58 = .ok (.goto 4, 3) := by decide +kernel
theorem dX8_runScript_61 : decode cX8_runScript 61 = .ok (.iconst 1, 1) := by decide +kernel
theorem dX8_runScript_62 : decode cX8_runScript 62 = .ok (.invokevirtual 108, 3) := by decide +kernel
theorem dX8_runScript_65 : decode cX8_runScript 65 = .ok (.ifCond .eq 5, 3) := by decide +kernel
theorem dX8_runScript_68 : decode cX8_runScript 68 = .ok (.iconst 0, 1) := by decide +kernel
theorem dX8_runScript_69 : decode cX8_runScript 69 = .ok (.ireturn, 1) := by decide +kernel
theorem dX8_runScript_70 : decode cX8_runScript 70 = .ok (.aload_n 0, 1) := by decide +kernel
theorem dX8_runScript_71 : decode cX8_runScript 71 = .ok (.getfield 13, 3) := by decide +kernel
theorem dX8_runScript_74 : decode cX8_runScript 74 = .ok (.iconst 0, 1) := by decide +kernel
theorem dX8_runScript_75 : decode cX8_runScript 75 = .ok (.aload_n 0, 1) := by decide +kernel
theorem dX8_runScript_76 : decode cX8_runScript 76 = .ok (.getfield 16, 3) := by decide +kernel
theorem dX8_runScript_79 : decode cX8_runScript 79 = .ok (.iconst 0, 1) := by decide +kernel
theorem dX8_runScript_80 : decode cX8_runScript 80 = .ok (.invokestatic 87, 3) := by decide +kernel
theorem dX8_runScript_83 : decode cX8_runScript 83 = .ok (.iconst 0, 1) := by decide +kernel
theorem dX8_runScript_84 : decode cX8_runScript 84 = .ok (.istore 6, 2) := by decide +kernel
theorem dX8_runScript_86 : decode cX8_runScript 86 = .ok (.iload 6, 2) := by decide +kernel
theorem dX8_runScript_88 : decode cX8_runScript 88 = .ok (.iload_n 1, 1) := by decide +kernel
theorem dX8_runScript_89 : decode cX8_runScript 89 = .ok (.if_icmp .ge 50, 3) := by decide +kernel
theorem dX8_runScript_92 : decode cX8_runScript 92 = .ok (.lload 4, 2) := by decide +kernel
theorem dX8_runScript_94 : decode cX8_runScript 94 = .ok (.ldc2_w 183, 3) := by decide +kernel
theorem dX8_runScript_97 : decode cX8_runScript 97 = .ok (.ldiv, 1) := by decide +kernel
theorem dX8_runScript_98 : decode cX8_runScript 98 = .ok (.lstore 4, 2) := by decide +kernel
theorem dX8_runScript_100 : decode cX8_runScript 100 = .ok (.lload_n 2, 1) := by decide +kernel
theorem dX8_runScript_101 : decode cX8_runScript 101 = .ok (.lload 4, 2) := by decide +kernel
theorem dX8_runScript_103 : decode cX8_runScript 103 = .ok (.ldiv, 1) := by decide +kernel
theorem dX8_runScript_104 : decode cX8_runScript 104 = .ok (.ldc2_w 183, 3) := by decide +kernel
theorem dX8_runScript_107 : decode cX8_runScript 107 = .ok (.lrem, 1) := by decide +kernel
theorem dX8_runScript_108 : decode cX8_runScript 108 = .ok (.l2i, 1) := by decide +kernel
theorem dX8_runScript_109 : decode cX8_runScript 109 = .ok (.istore 7, 2) := by decide +kernel
theorem dX8_runScript_111 : decode cX8_runScript 111 = .ok (.aload_n 0, 1) := by decide +kernel
theorem dX8_runScript_112 : decode cX8_runScript 112 = .ok (.iload 7, 2) := by decide +kernel
theorem dX8_runScript_114 : decode cX8_runScript 114 = .ok (.sipush 10000, 3) := by decide +kernel
theorem dX8_runScript_117 : decode cX8_runScript 117 = .ok (.idiv, 1) := by decide +kernel
theorem dX8_runScript_118 : decode cX8_runScript 118 = .ok (.iload 7, 2) := by decide +kernel
theorem dX8_runScript_120 : decode cX8_runScript 120 = .ok (.sipush 10000, 3) := by decide +kernel
theorem dX8_runScript_123 : decode cX8_runScript 123 = .ok (.irem, 1) := by decide +kernel
theorem dX8_runScript_124 : decode cX8_runScript 124 = .ok (.invokevirtual 187, 3) := by decide +kernel
theorem dX8_runScript_127 : decode cX8_runScript 127 = .ok (.ifCond .ne 6, 3) := by decide +kernel
theorem dX8_runScript_130 : decode cX8_runScript 130 = .ok (.iload 6, 2) := by decide +kernel
theorem dX8_runScript_132 : decode cX8_runScript 132 = .ok (.ireturn, 1) := by decide +kernel
theorem dX8_runScript_133 : decode cX8_runScript 133 = .ok (.iinc 6 1, 3) := by decide +kernel
theorem dX8_runScript_136 : decode cX8_runScript 136 = .ok (.goto (-50), 3) := by decide +kernel
theorem dX8_runScript_139 : decode cX8_runScript 139 = .ok (.iconst (-1), 1) := by decide +kernel
theorem dX8_runScript_140 : decode cX8_runScript 140 = .ok (.ireturn, 1) := by decide +kernel
theorem dX8_turnOf_0 : decode cX8_turnOf 0 = .ok (.iload_n 1, 1) := by decide +kernel
theorem dX8_turnOf_1 : decode cX8_turnOf 1 = .ok (.iconst 3, 1) := by decide +kernel
theorem dX8_turnOf_2 : decode cX8_turnOf 2 = .ok (.if_icmp .ge 45, 3) := by decide +kernel
theorem dX8_turnOf_5 : decode cX8_turnOf 5 = .ok (.aload_n 0, 1) := by decide +kernel
theorem dX8_turnOf_6 : decode cX8_turnOf 6 = .ok (.iconst 0, 1) := by decide +kernel
theorem dX8_turnOf_7 : decode cX8_turnOf 7 = .ok (.iaload, 1) := by decide +kernel
theorem dX8_turnOf_8 : decode cX8_turnOf 8 = .ok (.iconst 4, 1) := by decide +kernel
theorem dX8_turnOf_9 : decode cX8_turnOf 9 = .ok (.if_icmp .ge 147, 3) := by decide +kernel
theorem dX8_turnOf_12 : decode cX8_turnOf 12 = .ok (.aload_n 0, 1) := by decide +kernel
theorem dX8_turnOf_13 : decode cX8_turnOf 13 = .ok (.iload_n 2, 1) := by decide +kernel
theorem dX8_turnOf_14 : decode cX8_turnOf 14 = .ok (.bipush 7, 2) := by decide +kernel
theorem dX8_turnOf_16 : decode cX8_turnOf 16 = .ok (.irem, 1) := by decide +kernel
theorem dX8_turnOf_17 : decode cX8_turnOf 17 = .ok (.iload_n 2, 1) := by decide +kernel
theorem dX8_turnOf_18 : decode cX8_turnOf 18 = .ok (.bipush 8, 2) := by decide +kernel
theorem dX8_turnOf_20 : decode cX8_turnOf 20 = .ok (.idiv, 1) := by decide +kernel
theorem dX8_turnOf_21 : decode cX8_turnOf 21 = .ok (.bipush 7, 2) := by decide +kernel
theorem dX8_turnOf_23 : decode cX8_turnOf 23 = .ok (.irem, 1) := by decide +kernel
theorem dX8_turnOf_24 : decode cX8_turnOf 24 = .ok (.iload_n 2, 1) := by decide +kernel
theorem dX8_turnOf_25 : decode cX8_turnOf 25 = .ok (.bipush 64, 2) := by decide +kernel
theorem dX8_turnOf_27 : decode cX8_turnOf 27 = .ok (.idiv, 1) := by decide +kernel
theorem dX8_turnOf_28 : decode cX8_turnOf 28 = .ok (.bipush 7, 2) := by decide +kernel
theorem dX8_turnOf_30 : decode cX8_turnOf 30 = .ok (.irem, 1) := by decide +kernel
theorem dX8_turnOf_31 : decode cX8_turnOf 31 = .ok (.iconst 1, 1) := by decide +kernel
theorem dX8_turnOf_32 : decode cX8_turnOf 32 = .ok (.iload_n 2, 1) := by decide +kernel
theorem dX8_turnOf_33 : decode cX8_turnOf 33 = .ok (.sipush 512, 3) := by decide +kernel
theorem dX8_turnOf_36 : decode cX8_turnOf 36 = .ok (.idiv, 1) := by decide +kernel
theorem dX8_turnOf_37 : decode cX8_turnOf 37 = .ok (.iconst 4, 1) := by decide +kernel
theorem dX8_turnOf_38 : decode cX8_turnOf 38 = .ok (.irem, 1) := by decide +kernel
theorem dX8_turnOf_39 : decode cX8_turnOf 39 = .ok (.iadd, 1) := by decide +kernel
theorem dX8_turnOf_40 : decode cX8_turnOf 40 = .ok (.invokestatic 122, 3) := by decide +kernel
theorem dX8_turnOf_43 : decode cX8_turnOf 43 = .ok (.pop, 1) := by decide +kernel
theorem dX8_turnOf_44 : decode cX8_turnOf 44 = .ok (.goto 112, 3) := by decide +kernel
theorem dX8_turnOf_47 : decode cX8_turnOf 47 = .ok (.iload_n 1, 1) := by decide +kernel
theorem dX8_turnOf_48 : decode cX8_turnOf 48 = .ok (.iconst 3, 1) := by decide +kernel
theorem dX8_turnOf_49 : decode cX8_turnOf 49 = .ok (.if_icmp .ne 32, 3) := by decide +kernel
theorem dX8_turnOf_52 : decode cX8_turnOf 52 = .ok (.aload_n 0, 1) := by decide +kernel
theorem dX8_turnOf_53 : decode cX8_turnOf 53 = .ok (.iload_n 2, 1) := by decide +kernel
theorem dX8_turnOf_54 : decode cX8_turnOf 54 = .ok (.iconst 4, 1) := by decide +kernel
theorem dX8_turnOf_55 : decode cX8_turnOf 55 = .ok (.irem, 1) := by decide +kernel
theorem dX8_turnOf_56 : decode cX8_turnOf 56 = .ok (.invokestatic 91, 3) := by decide +kernel
theorem dX8_turnOf_59 : decode cX8_turnOf 59 = .ok (.ifCond .eq 97, 3) := by decide +kernel
theorem dX8_turnOf_62 : decode cX8_turnOf 62 = .ok (.iload_n 2, 1) := by decide +kernel
theorem dX8_turnOf_63 : decode cX8_turnOf 63 = .ok (.iconst 4, 1) := by decide +kernel
theorem dX8_turnOf_64 : decode cX8_turnOf 64 = .ok (.idiv, 1) := by decide +kernel
theorem dX8_turnOf_65 : decode cX8_turnOf 65 = .ok (.iconst 3, 1) := by decide +kernel
theorem dX8_turnOf_66 : decode cX8_turnOf 66 = .ok (.irem, 1) := by decide +kernel
theorem dX8_turnOf_67 : decode cX8_turnOf 67 = .ok (.ifCond .ne 89, 3) := by decide +kernel
theorem dX8_turnOf_70 : decode cX8_turnOf 70 = .ok (.aload_n 0, 1) := by decide +kernel
theorem dX8_turnOf_71 : decode cX8_turnOf 71 = .ok (.iload_n 2, 1) := by decide +kernel
theorem dX8_turnOf_72 : decode cX8_turnOf 72 = .ok (.iconst 4, 1) := by decide +kernel
theorem dX8_turnOf_73 : decode cX8_turnOf 73 = .ok (.irem, 1) := by decide +kernel
theorem dX8_turnOf_74 : decode cX8_turnOf 74 = .ok (.invokestatic 139, 3) := by decide +kernel
theorem dX8_turnOf_77 : decode cX8_turnOf 77 = .ok (.pop, 1) := by decide +kernel
theorem dX8_turnOf_78 : decode cX8_turnOf 78 = .ok (.goto 78, 3) := by decide +kernel
theorem dX8_turnOf_81 : decode cX8_turnOf 81 = .ok (.iload_n 1, 1) := by decide +kernel
theorem dX8_turnOf_82 : decode cX8_turnOf 82 = .ok (.iconst 4, 1) := by decide +kernel
theorem dX8_turnOf_83 : decode cX8_turnOf 83 = .ok (.if_icmp .ne 11, 3) := by decide +kernel
theorem dX8_turnOf_86 : decode cX8_turnOf 86 = .ok (.aload_n 0, 1) := by decide +kernel
theorem dX8_turnOf_87 : decode cX8_turnOf 87 = .ok (.invokestatic 136, 3) := by decide +kernel
theorem dX8_turnOf_90 : decode cX8_turnOf 90 = .ok (.pop, 1) := by decide +kernel
theorem dX8_turnOf_91 : decode cX8_turnOf 91 = .ok (.goto 65, 3) := by decide +kernel
theorem dX8_turnOf_94 : decode cX8_turnOf 94 = .ok (.iload_n 1, 1) := by decide +kernel
theorem dX8_turnOf_95 : decode cX8_turnOf 95 = .ok (.iconst 5, 1) := by decide +kernel
theorem dX8_turnOf_96 : decode cX8_turnOf 96 = .ok (.if_icmp .ne 42, 3) := by decide +kernel
theorem dX8_turnOf_99 : decode cX8_turnOf 99 = .ok (.iload_n 2, 1) := by decide +kernel
theorem dX8_turnOf_100 : decode cX8_turnOf 100 = .ok (.bipush 16, 2) := by decide +kernel
theorem dX8_turnOf_102 : decode cX8_turnOf 102 = .ok (.idiv, 1) := by decide +kernel
theorem dX8_turnOf_103 : decode cX8_turnOf 103 = .ok (.iconst 2, 1) := by decide +kernel
theorem dX8_turnOf_104 : decode cX8_turnOf 104 = .ok (.irem, 1) := by decide +kernel
theorem dX8_turnOf_105 : decode cX8_turnOf 105 = .ok (.ifCond .ne 18, 3) := by decide +kernel
theorem dX8_turnOf_108 : decode cX8_turnOf 108 = .ok (.aload_n 0, 1) := by decide +kernel
theorem dX8_turnOf_109 : decode cX8_turnOf 109 = .ok (.iconst 0, 1) := by decide +kernel
theorem dX8_turnOf_110 : decode cX8_turnOf 110 = .ok (.iconst 4, 1) := by decide +kernel
theorem dX8_turnOf_111 : decode cX8_turnOf 111 = .ok (.iload_n 2, 1) := by decide +kernel
theorem dX8_turnOf_112 : decode cX8_turnOf 112 = .ok (.bipush 13, 2) := by decide +kernel
theorem dX8_turnOf_114 : decode cX8_turnOf 114 = .ok (.irem, 1) := by decide +kernel
theorem dX8_turnOf_115 : decode cX8_turnOf 115 = .ok (.iadd, 1) := by decide +kernel
theorem dX8_turnOf_116 : decode cX8_turnOf 116 = .ok (.invokestatic 146, 3) := by decide +kernel
theorem dX8_turnOf_119 : decode cX8_turnOf 119 = .ok (.pop, 1) := by decide +kernel
theorem dX8_turnOf_120 : decode cX8_turnOf 120 = .ok (.goto 36, 3) := by decide +kernel
theorem dX8_turnOf_123 : decode cX8_turnOf 123 = .ok (.aload_n 0, 1) := by decide +kernel
theorem dX8_turnOf_124 : decode cX8_turnOf 124 = .ok (.iconst 1, 1) := by decide +kernel
theorem dX8_turnOf_125 : decode cX8_turnOf 125 = .ok (.iconst 1, 1) := by decide +kernel
theorem dX8_turnOf_126 : decode cX8_turnOf 126 = .ok (.iload_n 2, 1) := by decide +kernel
theorem dX8_turnOf_127 : decode cX8_turnOf 127 = .ok (.bipush 9, 2) := by decide +kernel
theorem dX8_turnOf_129 : decode cX8_turnOf 129 = .ok (.irem, 1) := by decide +kernel
theorem dX8_turnOf_130 : decode cX8_turnOf 130 = .ok (.iadd, 1) := by decide +kernel
theorem dX8_turnOf_131 : decode cX8_turnOf 131 = .ok (.invokestatic 146, 3) := by decide +kernel
theorem dX8_turnOf_134 : decode cX8_turnOf 134 = .ok (.pop, 1) := by decide +kernel
theorem dX8_turnOf_135 : decode cX8_turnOf 135 = .ok (.goto 21, 3) := by decide +kernel
theorem dX8_turnOf_138 : decode cX8_turnOf 138 = .ok (.aload_n 0, 1) := by decide +kernel
theorem dX8_turnOf_139 : decode cX8_turnOf 139 = .ok (.iload_n 2, 1) := by decide +kernel
theorem dX8_turnOf_140 : decode cX8_turnOf 140 = .ok (.iconst 4, 1) := by decide +kernel
theorem dX8_turnOf_141 : decode cX8_turnOf 141 = .ok (.irem, 1) := by decide +kernel
theorem dX8_turnOf_142 : decode cX8_turnOf 142 = .ok (.invokestatic 91, 3) := by decide +kernel
theorem dX8_turnOf_145 : decode cX8_turnOf 145 = .ok (.ifCond .eq 11, 3) := by decide +kernel
theorem dX8_turnOf_148 : decode cX8_turnOf 148 = .ok (.aload_n 0, 1) := by decide +kernel
theorem dX8_turnOf_149 : decode cX8_turnOf 149 = .ok (.iload_n 2, 1) := by decide +kernel
theorem dX8_turnOf_150 : decode cX8_turnOf 150 = .ok (.iconst 4, 1) := by decide +kernel
theorem dX8_turnOf_151 : decode cX8_turnOf 151 = .ok (.irem, 1) := by decide +kernel
theorem dX8_turnOf_152 : decode cX8_turnOf 152 = .ok (.invokestatic 133, 3) := by decide +kernel
theorem dX8_turnOf_155 : decode cX8_turnOf 155 = .ok (.pop, 1) := by decide +kernel
theorem dX8_turnOf_156 : decode cX8_turnOf 156 = .ok (.return_, 1) := by decide +kernel
theorem dX8_simulate_0 : decode cX8_simulate 0 = .ok (.aload_n 0, 1) := by decide +kernel
theorem dX8_simulate_1 : decode cX8_simulate 1 = .ok (.iload_n 3, 1) := by decide +kernel
theorem dX8_simulate_2 : decode cX8_simulate 2 = .ok (.i2l, 1) := by decide +kernel
theorem dX8_simulate_3 : decode cX8_simulate 3 = .ok (.lconst 1, 1) := by decide +kernel
theorem dX8_simulate_4 : decode cX8_simulate 4 = .ok (.ldc2_w 190, 3) := by decide +kernel
theorem dX8_simulate_7 : decode cX8_simulate 7 = .ok (.invokestatic 40, 3) := by decide +kernel
theorem dX8_simulate_10 : decode cX8_simulate 10 = .ok (.ifCond .eq 7, 3) := by decide +kernel
theorem dX8_simulate_13 : decode cX8_simulate 13 = .ok (.iconst 0, 1) := by decide +kernel
theorem dX8_simulate_14 : decode cX8_simulate 14 = .ok (.goto 4, 3) := by decide +kernel
theorem dX8_simulate_17 : decode cX8_simulate 17 = .ok (.iconst 1, 1) := by decide +kernel
theorem dX8_simulate_18 : decode cX8_simulate 18 = .ok (.invokevirtual 108, 3) := by decide +kernel
theorem dX8_simulate_21 : decode cX8_simulate 21 = .ok (.ifCond .eq 5, 3) := by decide +kernel
theorem dX8_simulate_24 : decode cX8_simulate 24 = .ok (.iconst 0, 1) := by decide +kernel
theorem dX8_simulate_25 : decode cX8_simulate 25 = .ok (.ireturn, 1) := by decide +kernel
theorem dX8_simulate_26 : decode cX8_simulate 26 = .ok (.aload_n 0, 1) := by decide +kernel
theorem dX8_simulate_27 : decode cX8_simulate 27 = .ok (.getfield 13, 3) := by decide +kernel
theorem dX8_simulate_30 : decode cX8_simulate 30 = .ok (.iconst 0, 1) := by decide +kernel
theorem dX8_simulate_31 : decode cX8_simulate 31 = .ok (.aload_n 0, 1) := by decide +kernel
theorem dX8_simulate_32 : decode cX8_simulate 32 = .ok (.getfield 16, 3) := by decide +kernel
theorem dX8_simulate_35 : decode cX8_simulate 35 = .ok (.iconst 0, 1) := by decide +kernel
theorem dX8_simulate_36 : decode cX8_simulate 36 = .ok (.invokestatic 87, 3) := by decide +kernel
theorem dX8_simulate_39 : decode cX8_simulate 39 = .ok (.lload_n 1, 1) := by decide +kernel
theorem dX8_simulate_40 : decode cX8_simulate 40 = .ok (.lstore 4, 2) := by decide +kernel
theorem dX8_simulate_42 : decode cX8_simulate 42 = .ok (.iconst 0, 1) := by decide +kernel
theorem dX8_simulate_43 : decode cX8_simulate 43 = .ok (.istore 6, 2) := by decide +kernel
theorem dX8_simulate_45 : decode cX8_simulate 45 = .ok (.iload 6, 2) := by decide +kernel
theorem dX8_simulate_47 : decode cX8_simulate 47 = .ok (.iload_n 3, 1) := by decide +kernel
theorem dX8_simulate_48 : decode cX8_simulate 48 = .ok (.if_icmp .ge 46, 3) := by decide +kernel
theorem dX8_simulate_51 : decode cX8_simulate 51 = .ok (.lload 4, 2) := by decide +kernel
theorem dX8_simulate_53 : decode cX8_simulate 53 = .ok (.ldc2_w 192, 3) := by decide +kernel
theorem dX8_simulate_56 : decode cX8_simulate 56 = .ok (.lmul, 1) := by decide +kernel
theorem dX8_simulate_57 : decode cX8_simulate 57 = .ok (.ldc2_w 194, 3) := by decide +kernel
theorem dX8_simulate_60 : decode cX8_simulate 60 = .ok (.ladd, 1) := by decide +kernel
theorem dX8_simulate_61 : decode cX8_simulate 61 = .ok (.lstore 4, 2) := by decide +kernel
theorem dX8_simulate_63 : decode cX8_simulate 63 = .ok (.lload 4, 2) := by decide +kernel
theorem dX8_simulate_65 : decode cX8_simulate 65 = .ok (.bipush 33, 2) := by decide +kernel
theorem dX8_simulate_67 : decode cX8_simulate 67 = .ok (.lushr, 1) := by decide +kernel
theorem dX8_simulate_68 : decode cX8_simulate 68 = .ok (.l2i, 1) := by decide +kernel
theorem dX8_simulate_69 : decode cX8_simulate 69 = .ok (.istore 7, 2) := by decide +kernel
theorem dX8_simulate_71 : decode cX8_simulate 71 = .ok (.aload_n 0, 1) := by decide +kernel
theorem dX8_simulate_72 : decode cX8_simulate 72 = .ok (.getfield 16, 3) := by decide +kernel
theorem dX8_simulate_75 : decode cX8_simulate 75 = .ok (.iload 7, 2) := by decide +kernel
theorem dX8_simulate_77 : decode cX8_simulate 77 = .ok (.bipush 16, 2) := by decide +kernel
theorem dX8_simulate_79 : decode cX8_simulate 79 = .ok (.irem, 1) := by decide +kernel
theorem dX8_simulate_80 : decode cX8_simulate 80 = .ok (.iload 7, 2) := by decide +kernel
theorem dX8_simulate_82 : decode cX8_simulate 82 = .ok (.bipush 16, 2) := by decide +kernel
theorem dX8_simulate_84 : decode cX8_simulate 84 = .ok (.idiv, 1) := by decide +kernel
theorem dX8_simulate_85 : decode cX8_simulate 85 = .ok (.invokestatic 196, 3) := by decide +kernel
theorem dX8_simulate_88 : decode cX8_simulate 88 = .ok (.iinc 6 1, 3) := by decide +kernel
theorem dX8_simulate_91 : decode cX8_simulate 91 = .ok (.goto (-46), 3) := by decide +kernel
theorem dX8_simulate_94 : decode cX8_simulate 94 = .ok (.sipush 10000, 3) := by decide +kernel
theorem dX8_simulate_97 : decode cX8_simulate 97 = .ok (.aload_n 0, 1) := by decide +kernel
theorem dX8_simulate_98 : decode cX8_simulate 98 = .ok (.getfield 16, 3) := by decide +kernel
theorem dX8_simulate_101 : decode cX8_simulate 101 = .ok (.iconst 3, 1) := by decide +kernel
theorem dX8_simulate_102 : decode cX8_simulate 102 = .ok (.iaload, 1) := by decide +kernel
theorem dX8_simulate_103 : decode cX8_simulate 103 = .ok (.aload_n 0, 1) := by decide +kernel
theorem dX8_simulate_104 : decode cX8_simulate 104 = .ok (.getfield 13, 3) := by decide +kernel
theorem dX8_simulate_107 : decode cX8_simulate 107 = .ok (.iconst 3, 1) := by decide +kernel
theorem dX8_simulate_108 : decode cX8_simulate 108 = .ok (.iaload, 1) := by decide +kernel
theorem dX8_simulate_109 : decode cX8_simulate 109 = .ok (.isub, 1) := by decide +kernel
theorem dX8_simulate_110 : decode cX8_simulate 110 = .ok (.imul, 1) := by decide +kernel
theorem dX8_simulate_111 : decode cX8_simulate 111 = .ok (.bipush 100, 2) := by decide +kernel
theorem dX8_simulate_113 : decode cX8_simulate 113 = .ok (.aload_n 0, 1) := by decide +kernel
theorem dX8_simulate_114 : decode cX8_simulate 114 = .ok (.getfield 16, 3) := by decide +kernel
theorem dX8_simulate_117 : decode cX8_simulate 117 = .ok (.bipush 6, 2) := by decide +kernel
theorem dX8_simulate_119 : decode cX8_simulate 119 = .ok (.iaload, 1) := by decide +kernel
theorem dX8_simulate_120 : decode cX8_simulate 120 = .ok (.aload_n 0, 1) := by decide +kernel
theorem dX8_simulate_121 : decode cX8_simulate 121 = .ok (.getfield 13, 3) := by decide +kernel
theorem dX8_simulate_124 : decode cX8_simulate 124 = .ok (.bipush 6, 2) := by decide +kernel
theorem dX8_simulate_126 : decode cX8_simulate 126 = .ok (.iaload, 1) := by decide +kernel
theorem dX8_simulate_127 : decode cX8_simulate 127 = .ok (.isub, 1) := by decide +kernel
theorem dX8_simulate_128 : decode cX8_simulate 128 = .ok (.imul, 1) := by decide +kernel
theorem dX8_simulate_129 : decode cX8_simulate 129 = .ok (.iadd, 1) := by decide +kernel
theorem dX8_simulate_130 : decode cX8_simulate 130 = .ok (.aload_n 0, 1) := by decide +kernel
theorem dX8_simulate_131 : decode cX8_simulate 131 = .ok (.getfield 16, 3) := by decide +kernel
theorem dX8_simulate_134 : decode cX8_simulate 134 = .ok (.invokestatic 81, 3) := by decide +kernel
theorem dX8_simulate_137 : decode cX8_simulate 137 = .ok (.iadd, 1) := by decide +kernel
theorem dX8_simulate_138 : decode cX8_simulate 138 = .ok (.ireturn, 1) := by decide +kernel
theorem dX8_save_0 : decode cX8_save 0 = .ok (.aload_n 0, 1) := by decide +kernel
theorem dX8_save_1 : decode cX8_save 1 = .ok (.iload_n 1, 1) := by decide +kernel
theorem dX8_save_2 : decode cX8_save 2 = .ok (.i2l, 1) := by decide +kernel
theorem dX8_save_3 : decode cX8_save 3 = .ok (.lconst 0, 1) := by decide +kernel
theorem dX8_save_4 : decode cX8_save 4 = .ok (.lconst 1, 1) := by decide +kernel
theorem dX8_save_5 : decode cX8_save 5 = .ok (.invokestatic 40, 3) := by decide +kernel
theorem dX8_save_8 : decode cX8_save 8 = .ok (.ifCond .eq 7, 3) := by decide +kernel
theorem dX8_save_11 : decode cX8_save 11 = .ok (.iconst 0, 1) := by decide +kernel
theorem dX8_save_12 : decode cX8_save 12 = .ok (.goto 4, 3) := by decide +kernel
theorem dX8_save_15 : decode cX8_save 15 = .ok (.iconst 1, 1) := by decide +kernel
theorem dX8_save_16 : decode cX8_save 16 = .ok (.invokevirtual 108, 3) := by decide +kernel
theorem dX8_save_19 : decode cX8_save 19 = .ok (.ifCond .eq 5, 3) := by decide +kernel
theorem dX8_save_22 : decode cX8_save 22 = .ok (.iconst 0, 1) := by decide +kernel
theorem dX8_save_23 : decode cX8_save 23 = .ok (.ireturn, 1) := by decide +kernel
theorem dX8_save_24 : decode cX8_save 24 = .ok (.aload_n 0, 1) := by decide +kernel
theorem dX8_save_25 : decode cX8_save 25 = .ok (.getfield 13, 3) := by decide +kernel
theorem dX8_save_28 : decode cX8_save 28 = .ok (.iconst 0, 1) := by decide +kernel
theorem dX8_save_29 : decode cX8_save 29 = .ok (.aload_n 0, 1) := by decide +kernel
theorem dX8_save_30 : decode cX8_save 30 = .ok (.getfield 25, 3) := by decide +kernel
theorem dX8_save_33 : decode cX8_save 33 = .ok (.bipush 42, 2) := by decide +kernel
theorem dX8_save_35 : decode cX8_save 35 = .ok (.iload_n 1, 1) := by decide +kernel
theorem dX8_save_36 : decode cX8_save 36 = .ok (.imul, 1) := by decide +kernel
theorem dX8_save_37 : decode cX8_save 37 = .ok (.invokestatic 87, 3) := by decide +kernel
theorem dX8_save_40 : decode cX8_save 40 = .ok (.aload_n 0, 1) := by decide +kernel
theorem dX8_save_41 : decode cX8_save 41 = .ok (.getfield 28, 3) := by decide +kernel
theorem dX8_save_44 : decode cX8_save 44 = .ok (.iload_n 1, 1) := by decide +kernel
theorem dX8_save_45 : decode cX8_save 45 = .ok (.iconst 1, 1) := by decide +kernel
theorem dX8_save_46 : decode cX8_save 46 = .ok (.bastore, 1) := by decide +kernel
theorem dX8_save_47 : decode cX8_save 47 = .ok (.aload_n 0, 1) := by decide +kernel
theorem dX8_save_48 : decode cX8_save 48 = .ok (.getfield 13, 3) := by decide +kernel
theorem dX8_save_51 : decode cX8_save 51 = .ok (.iconst 2, 1) := by decide +kernel
theorem dX8_save_52 : decode cX8_save 52 = .ok (.iaload, 1) := by decide +kernel
theorem dX8_save_53 : decode cX8_save 53 = .ok (.ireturn, 1) := by decide +kernel
theorem dX8_restore_0 : decode cX8_restore 0 = .ok (.aload_n 0, 1) := by decide +kernel
theorem dX8_restore_1 : decode cX8_restore 1 = .ok (.iload_n 1, 1) := by decide +kernel
theorem dX8_restore_2 : decode cX8_restore 2 = .ok (.i2l, 1) := by decide +kernel
theorem dX8_restore_3 : decode cX8_restore 3 = .ok (.lconst 0, 1) := by decide +kernel
theorem dX8_restore_4 : decode cX8_restore 4 = .ok (.lconst 1, 1) := by decide +kernel
theorem dX8_restore_5 : decode cX8_restore 5 = .ok (.invokestatic 40, 3) := by decide +kernel
theorem dX8_restore_8 : decode cX8_restore 8 = .ok (.ifCond .ne 7, 3) := by decide +kernel
theorem dX8_restore_11 : decode cX8_restore 11 = .ok (.iconst 1, 1) := by decide +kernel
theorem dX8_restore_12 : decode cX8_restore 12 = .ok (.goto 17, 3) := by decide +kernel
theorem dX8_restore_15 : decode cX8_restore 15 = .ok (.aload_n 0, 1) := by decide +kernel
theorem dX8_restore_16 : decode cX8_restore 16 = .ok (.getfield 28, 3) := by decide +kernel
theorem dX8_restore_19 : decode cX8_restore 19 = .ok (.iload_n 1, 1) := by decide +kernel
theorem dX8_restore_20 : decode cX8_restore 20 = .ok (.baload, 1) := by decide +kernel
theorem dX8_restore_21 : decode cX8_restore 21 = .ok (.ifCond .ne 7, 3) := by decide +kernel
theorem dX8_restore_24 : decode cX8_restore 24 = .ok (.iconst 2, 1) := by decide +kernel
theorem dX8_restore_25 : decode cX8_restore 25 = .ok (.goto 4, 3) := by decide +kernel
theorem dX8_restore_28 : decode cX8_restore 28 = .ok (.iconst 0, 1) := by decide +kernel
theorem dX8_restore_29 : decode cX8_restore 29 = .ok (.invokevirtual 108, 3) := by decide +kernel
theorem dX8_restore_32 : decode cX8_restore 32 = .ok (.ifCond .eq 5, 3) := by decide +kernel
theorem dX8_restore_35 : decode cX8_restore 35 = .ok (.iconst 0, 1) := by decide +kernel
theorem dX8_restore_36 : decode cX8_restore 36 = .ok (.ireturn, 1) := by decide +kernel
theorem dX8_restore_37 : decode cX8_restore 37 = .ok (.aload_n 0, 1) := by decide +kernel
theorem dX8_restore_38 : decode cX8_restore 38 = .ok (.getfield 25, 3) := by decide +kernel
theorem dX8_restore_41 : decode cX8_restore 41 = .ok (.bipush 42, 2) := by decide +kernel
theorem dX8_restore_43 : decode cX8_restore 43 = .ok (.iload_n 1, 1) := by decide +kernel
theorem dX8_restore_44 : decode cX8_restore 44 = .ok (.imul, 1) := by decide +kernel
theorem dX8_restore_45 : decode cX8_restore 45 = .ok (.aload_n 0, 1) := by decide +kernel
theorem dX8_restore_46 : decode cX8_restore 46 = .ok (.getfield 13, 3) := by decide +kernel
theorem dX8_restore_49 : decode cX8_restore 49 = .ok (.iconst 0, 1) := by decide +kernel
theorem dX8_restore_50 : decode cX8_restore 50 = .ok (.invokestatic 87, 3) := by decide +kernel
theorem dX8_restore_53 : decode cX8_restore 53 = .ok (.aload_n 0, 1) := by decide +kernel
theorem dX8_restore_54 : decode cX8_restore 54 = .ok (.iconst 0, 1) := by decide +kernel
theorem dX8_restore_55 : decode cX8_restore 55 = .ok (.putfield 162, 3) := by decide +kernel
theorem dX8_restore_58 : decode cX8_restore 58 = .ok (.aload_n 0, 1) := by decide +kernel
theorem dX8_restore_59 : decode cX8_restore 59 = .ok (.getfield 13, 3) := by decide +kernel
theorem dX8_restore_62 : decode cX8_restore 62 = .ok (.iconst 2, 1) := by decide +kernel
theorem dX8_restore_63 : decode cX8_restore 63 = .ok (.iaload, 1) := by decide +kernel
theorem dX8_restore_64 : decode cX8_restore 64 = .ok (.ireturn, 1) := by decide +kernel
