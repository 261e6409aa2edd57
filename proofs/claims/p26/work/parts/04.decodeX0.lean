theorem dX0_without_0 : decode cX0_without 0 = .ok (.lload_n 0, 1) := by decide +kernel
theorem dX0_without_1 : decode cX0_without 1 = .ok (.lstore_n 3, 1) := by decide +kernel
theorem dX0_without_2 : decode cX0_without 2 = .ok (.iconst 0, 1) := by decide +kernel
theorem dX0_without_3 : decode cX0_without 3 = .ok (.istore 5, 2) := by decide +kernel
theorem dX0_without_5 : decode cX0_without 5 = .ok (.iload 5, 2) := by decide +kernel
theorem dX0_without_7 : decode cX0_without 7 = .ok (.iload_n 2, 1) := by decide +kernel
theorem dX0_without_8 : decode cX0_without 8 = .ok (.if_icmp .ge 15, 3) := by decide +kernel
theorem dX0_without_11 : decode cX0_without 11 = .ok (.lload_n 3, 1) := by decide +kernel
theorem dX0_without_12 : decode cX0_without 12 = .ok (.ldc2_w 7, 3) := by decide +kernel
theorem dX0_without_15 : decode cX0_without 15 = .ok (.ldiv, 1) := by decide +kernel
theorem dX0_without_16 : decode cX0_without 16 = .ok (.lstore_n 3, 1) := by decide +kernel
theorem dX0_without_17 : decode cX0_without 17 = .ok (.iinc 5 1, 3) := by decide +kernel
theorem dX0_without_20 : decode cX0_without 20 = .ok (.goto (-15), 3) := by decide +kernel
theorem dX0_without_23 : decode cX0_without 23 = .ok (.lload_n 3, 1) := by decide +kernel
theorem dX0_without_24 : decode cX0_without 24 = .ok (.lreturn, 1) := by decide +kernel
theorem dX1_init_0 : decode cX1_init 0 = .ok (.aload_n 0, 1) := by decide +kernel
theorem dX1_init_1 : decode cX1_init 1 = .ok (.invokespecial 3, 3) := by decide +kernel
theorem dX1_init_4 : decode cX1_init 4 = .ok (.aload_n 0, 1) := by decide +kernel
theorem dX1_init_5 : decode cX1_init 5 = .ok (.iconst 3, 1) := by decide +kernel
theorem dX1_init_6 : decode cX1_init 6 = .ok (.newarray .int, 2) := by decide +kernel
theorem dX1_init_8 : decode cX1_init 8 = .ok (.dup, 1) := by decide +kernel
theorem dX1_init_9 : decode cX1_init 9 = .ok (.iconst 0, 1) := by decide +kernel
theorem dX1_init_10 : decode cX1_init 10 = .ok (.bipush 6, 2) := by decide +kernel
theorem dX1_init_12 : decode cX1_init 12 = .ok (.iastore, 1) := by decide +kernel
theorem dX1_init_13 : decode cX1_init 13 = .ok (.dup, 1) := by decide +kernel
theorem dX1_init_14 : decode cX1_init 14 = .ok (.iconst 1, 1) := by decide +kernel
theorem dX1_init_15 : decode cX1_init 15 = .ok (.iconst 3, 1) := by decide +kernel
theorem dX1_init_16 : decode cX1_init 16 = .ok (.iastore, 1) := by decide +kernel
theorem dX1_init_17 : decode cX1_init 17 = .ok (.dup, 1) := by decide +kernel
theorem dX1_init_18 : decode cX1_init 18 = .ok (.iconst 2, 1) := by decide +kernel
theorem dX1_init_19 : decode cX1_init 19 = .ok (.iconst 2, 1) := by decide +kernel
theorem dX1_init_20 : decode cX1_init 20 = .ok (.iastore, 1) := by decide +kernel
theorem dX1_init_21 : decode cX1_init 21 = .ok (.putfield 9, 3) := by decide +kernel
theorem dX1_init_24 : decode cX1_init 24 = .ok (.aload_n 0, 1) := by decide +kernel
theorem dX1_init_25 : decode cX1_init 25 = .ok (.iconst 4, 1) := by decide +kernel
theorem dX1_init_26 : decode cX1_init 26 = .ok (.newarray .int, 2) := by decide +kernel
theorem dX1_init_28 : decode cX1_init 28 = .ok (.putfield 15, 3) := by decide +kernel
theorem dX1_init_31 : decode cX1_init 31 = .ok (.aload_n 0, 1) := by decide +kernel
theorem dX1_init_32 : decode cX1_init 32 = .ok (.iconst 4, 1) := by decide +kernel
theorem dX1_init_33 : decode cX1_init 33 = .ok (.newarray .int, 2) := by decide +kernel
theorem dX1_init_35 : decode cX1_init 35 = .ok (.putfield 18, 3) := by decide +kernel
theorem dX1_init_38 : decode cX1_init 38 = .ok (.aload_n 0, 1) := by decide +kernel
theorem dX1_init_39 : decode cX1_init 39 = .ok (.iconst 4, 1) := by decide +kernel
theorem dX1_init_40 : decode cX1_init 40 = .ok (.newarray .int, 2) := by decide +kernel
theorem dX1_init_42 : decode cX1_init 42 = .ok (.putfield 21, 3) := by decide +kernel
theorem dX1_init_45 : decode cX1_init 45 = .ok (.aload_n 0, 1) := by decide +kernel
theorem dX1_init_46 : decode cX1_init 46 = .ok (.iconst 4, 1) := by decide +kernel
theorem dX1_init_47 : decode cX1_init 47 = .ok (.newarray .int, 2) := by decide +kernel
theorem dX1_init_49 : decode cX1_init 49 = .ok (.putfield 24, 3) := by decide +kernel
theorem dX1_init_52 : decode cX1_init 52 = .ok (.aload_n 0, 1) := by decide +kernel
theorem dX1_init_53 : decode cX1_init 53 = .ok (.iconst 4, 1) := by decide +kernel
theorem dX1_init_54 : decode cX1_init 54 = .ok (.newarray .int, 2) := by decide +kernel
theorem dX1_init_56 : decode cX1_init 56 = .ok (.putfield 27, 3) := by decide +kernel
theorem dX1_init_59 : decode cX1_init 59 = .ok (.aload_n 0, 1) := by decide +kernel
theorem dX1_init_60 : decode cX1_init 60 = .ok (.iconst 4, 1) := by decide +kernel
theorem dX1_init_61 : decode cX1_init 61 = .ok (.newarray .int, 2) := by decide +kernel
theorem dX1_init_63 : decode cX1_init 63 = .ok (.putfield 30, 3) := by decide +kernel
theorem dX1_init_66 : decode cX1_init 66 = .ok (.aload_n 0, 1) := by decide +kernel
theorem dX1_init_67 : decode cX1_init 67 = .ok (.iconst 4, 1) := by decide +kernel
theorem dX1_init_68 : decode cX1_init 68 = .ok (.newarray .int, 2) := by decide +kernel
theorem dX1_init_70 : decode cX1_init 70 = .ok (.putfield 33, 3) := by decide +kernel
theorem dX1_init_73 : decode cX1_init 73 = .ok (.aload_n 0, 1) := by decide +kernel
theorem dX1_init_74 : decode cX1_init 74 = .ok (.iconst 4, 1) := by decide +kernel
theorem dX1_init_75 : decode cX1_init 75 = .ok (.newarray .int, 2) := by decide +kernel
theorem dX1_init_77 : decode cX1_init 77 = .ok (.putfield 36, 3) := by decide +kernel
theorem dX1_init_80 : decode cX1_init 80 = .ok (.return_, 1) := by decide +kernel
theorem dX1_isFloor_0 : decode cX1_isFloor 0 = .ok (.iload_n 0, 1) := by decide +kernel
theorem dX1_isFloor_1 : decode cX1_isFloor 1 = .ok (.ifCond .lt 13, 3) := by decide +kernel
theorem dX1_isFloor_4 : decode cX1_isFloor 4 = .ok (.iload_n 0, 1) := by decide +kernel
theorem dX1_isFloor_5 : decode cX1_isFloor 5 = .ok (.bipush 7, 2) := by decide +kernel
theorem dX1_isFloor_7 : decode cX1_isFloor 7 = .ok (.if_icmp .ge 7, 3) := by decide +kernel
theorem dX1_isFloor_10 : decode cX1_isFloor 10 = .ok (.iconst 1, 1) := by decide +kernel
theorem dX1_isFloor_11 : decode cX1_isFloor 11 = .ok (.goto 4, 3) := by decide +kernel
theorem dX1_isFloor_14 : decode cX1_isFloor 14 = .ok (.iconst 0, 1) := by decide +kernel
theorem dX1_isFloor_15 : decode cX1_isFloor 15 = .ok (.ireturn, 1) := by decide +kernel
theorem dX1_isWeight_0 : decode cX1_isWeight 0 = .ok (.iload_n 0, 1) := by decide +kernel
theorem dX1_isWeight_1 : decode cX1_isWeight 1 = .ok (.iconst 1, 1) := by decide +kernel
theorem dX1_isWeight_2 : decode cX1_isWeight 2 = .ok (.if_icmp .lt 12, 3) := by decide +kernel
theorem dX1_isWeight_5 : decode cX1_isWeight 5 = .ok (.iload_n 0, 1) := by decide +kernel
theorem dX1_isWeight_6 : decode cX1_isWeight 6 = .ok (.iconst 4, 1) := by decide +kernel
theorem dX1_isWeight_7 : decode cX1_isWeight 7 = .ok (.if_icmp .gt 7, 3) := by decide +kernel
theorem dX1_isWeight_10 : decode cX1_isWeight 10 = .ok (.iconst 1, 1) := by decide +kernel
theorem dX1_isWeight_11 : decode cX1_isWeight 11 = .ok (.goto 4, 3) := by decide +kernel
theorem dX1_isWeight_14 : decode cX1_isWeight 14 = .ok (.iconst 0, 1) := by decide +kernel
theorem dX1_isWeight_15 : decode cX1_isWeight 15 = .ok (.ireturn, 1) := by decide +kernel
theorem dX1_isSetting_0 : decode cX1_isSetting 0 = .ok (.iload_n 0, 1) := by decide +kernel
theorem dX1_isSetting_1 : decode cX1_isSetting 1 = .ok (.ifCond .lt 15, 3) := by decide +kernel
theorem dX1_isSetting_4 : decode cX1_isSetting 4 = .ok (.iload_n 0, 1) := by decide +kernel
theorem dX1_isSetting_5 : decode cX1_isSetting 5 = .ok (.getstatic 39, 3) := by decide +kernel
theorem dX1_isSetting_8 : decode cX1_isSetting 8 = .ok (.arraylength, 1) := by decide +kernel
theorem dX1_isSetting_9 : decode cX1_isSetting 9 = .ok (.if_icmp .ge 7, 3) := by decide +kernel
theorem dX1_isSetting_12 : decode cX1_isSetting 12 = .ok (.iconst 1, 1) := by decide +kernel
theorem dX1_isSetting_13 : decode cX1_isSetting 13 = .ok (.goto 4, 3) := by decide +kernel
theorem dX1_isSetting_16 : decode cX1_isSetting 16 = .ok (.iconst 0, 1) := by decide +kernel
theorem dX1_isSetting_17 : decode cX1_isSetting 17 = .ok (.ireturn, 1) := by decide +kernel
theorem dX1_isSettingValue_0 : decode cX1_isSettingValue 0 = .ok (.iload_n 0, 1) := by decide +kernel
theorem dX1_isSettingValue_1 : decode cX1_isSettingValue 1 = .ok (.invokestatic 42, 3) := by decide +kernel
theorem dX1_isSettingValue_4 : decode cX1_isSettingValue 4 = .ok (.ifCond .eq 25, 3) := by decide +kernel
theorem dX1_isSettingValue_7 : decode cX1_isSettingValue 7 = .ok (.iload_n 1, 1) := by decide +kernel
theorem dX1_isSettingValue_8 : decode cX1_isSettingValue 8 = .ok (.getstatic 39, 3) := by decide +kernel
theorem dX1_isSettingValue_11 : decode cX1_isSettingValue 11 = .ok (.iload_n 0, 1) := by decide +kernel
theorem dX1_isSettingValue_12 : decode cX1_isSettingValue 12 = .ok (.iaload, 1) := by decide +kernel
theorem dX1_isSettingValue_13 : decode cX1_isSettingValue 13 = .ok (.if_icmp .lt 16, 3) := by decide +kernel
theorem dX1_isSettingValue_16 : decode cX1_isSettingValue 16 = .ok (.iload_n 1, 1) := by decide +kernel
theorem dX1_isSettingValue_17 : decode cX1_isSettingValue 17 = .ok (.getstatic 46, 3) := by decide +kernel
theorem dX1_isSettingValue_20 : decode cX1_isSettingValue 20 = .ok (.iload_n 0, 1) := by decide +kernel
theorem dX1_isSettingValue_21 : decode cX1_isSettingValue 21 = .ok (.iaload, 1) := by decide +kernel
theorem dX1_isSettingValue_22 : decode cX1_isSettingValue 22 = .ok (.if_icmp .gt 7, 3) := by decide +kernel
theorem dX1_isSettingValue_25 : decode cX1_isSettingValue 25 = .ok (.iconst 1, 1) := by decide +kernel
theorem dX1_isSettingValue_26 : decode cX1_isSettingValue 26 = .ok (.goto 4, 3) := by decide +kernel
theorem dX1_isSettingValue_29 : decode cX1_isSettingValue 29 = .ok (.iconst 0, 1) := by decide +kernel
theorem dX1_isSettingValue_30 : decode cX1_isSettingValue 30 = .ok (.ireturn, 1) := by decide +kernel
theorem dX1_isGuest_0 : decode cX1_isGuest 0 = .ok (.iload_n 1, 1) := by decide +kernel
theorem dX1_isGuest_1 : decode cX1_isGuest 1 = .ok (.ifCond .lt 15, 3) := by decide +kernel
theorem dX1_isGuest_4 : decode cX1_isGuest 4 = .ok (.iload_n 1, 1) := by decide +kernel
theorem dX1_isGuest_5 : decode cX1_isGuest 5 = .ok (.aload_n 0, 1) := by decide +kernel
theorem dX1_isGuest_6 : decode cX1_isGuest 6 = .ok (.getfield 49, 3) := by decide +kernel
theorem dX1_isGuest_9 : decode cX1_isGuest 9 = .ok (.if_icmp .ge 7, 3) := by decide +kernel
theorem dX1_isGuest_12 : decode cX1_isGuest 12 = .ok (.iconst 1, 1) := by decide +kernel
theorem dX1_isGuest_13 : decode cX1_isGuest 13 = .ok (.goto 4, 3) := by decide +kernel
theorem dX1_isGuest_16 : decode cX1_isGuest 16 = .ok (.iconst 0, 1) := by decide +kernel
theorem dX1_isGuest_17 : decode cX1_isGuest 17 = .ok (.ireturn, 1) := by decide +kernel
theorem dX1_isFull_0 : decode cX1_isFull 0 = .ok (.aload_n 0, 1) := by decide +kernel
theorem dX1_isFull_1 : decode cX1_isFull 1 = .ok (.getfield 49, 3) := by decide +kernel
theorem dX1_isFull_4 : decode cX1_isFull 4 = .ok (.iconst 4, 1) := by decide +kernel
theorem dX1_isFull_5 : decode cX1_isFull 5 = .ok (.if_icmp .lt 7, 3) := by decide +kernel
theorem dX1_isFull_8 : decode cX1_isFull 8 = .ok (.iconst 1, 1) := by decide +kernel
theorem dX1_isFull_9 : decode cX1_isFull 9 = .ok (.goto 4, 3) := by decide +kernel
theorem dX1_isFull_12 : decode cX1_isFull 12 = .ok (.iconst 0, 1) := by decide +kernel
theorem dX1_isFull_13 : decode cX1_isFull 13 = .ok (.ireturn, 1) := by decide +kernel
theorem dX1_guestCount_0 : decode cX1_guestCount 0 = .ok (.aload_n 0, 1) := by decide +kernel
theorem dX1_guestCount_1 : decode cX1_guestCount 1 = .ok (.getfield 49, 3) := by decide +kernel
theorem dX1_guestCount_4 : decode cX1_guestCount 4 = .ok (.ireturn, 1) := by decide +kernel
theorem dX1_copyFrom_0 : decode cX1_copyFrom 0 = .ok (.aload_n 0, 1) := by decide +kernel
theorem dX1_copyFrom_1 : decode cX1_copyFrom 1 = .ok (.aload_n 1, 1) := by decide +kernel
theorem dX1_copyFrom_2 : decode cX1_copyFrom 2 = .ok (.getfield 49, 3) := by decide +kernel
theorem dX1_copyFrom_5 : decode cX1_copyFrom 5 = .ok (.putfield 49, 3) := by decide +kernel
theorem dX1_copyFrom_8 : decode cX1_copyFrom 8 = .ok (.aload_n 0, 1) := by decide +kernel
theorem dX1_copyFrom_9 : decode cX1_copyFrom 9 = .ok (.aload_n 1, 1) := by decide +kernel
theorem dX1_copyFrom_10 : decode cX1_copyFrom 10 = .ok (.getfield 53, 3) := by decide +kernel
theorem dX1_copyFrom_13 : decode cX1_copyFrom 13 = .ok (.putfield 53, 3) := by decide +kernel
theorem dX1_copyFrom_16 : decode cX1_copyFrom 16 = .ok (.aload_n 0, 1) := by decide +kernel
theorem dX1_copyFrom_17 : decode cX1_copyFrom 17 = .ok (.aload_n 1, 1) := by decide +kernel
theorem dX1_copyFrom_18 : decode cX1_copyFrom 18 = .ok (.getfield 56, 3) := by decide +kernel
theorem dX1_copyFrom_21 : decode cX1_copyFrom 21 = .ok (.putfield 56, 3) := by decide +kernel
theorem dX1_copyFrom_24 : decode cX1_copyFrom 24 = .ok (.aload_n 0, 1) := by decide +kernel
theorem dX1_copyFrom_25 : decode cX1_copyFrom 25 = .ok (.aload_n 1, 1) := by decide +kernel
theorem dX1_copyFrom_26 : decode cX1_copyFrom 26 = .ok (.getfield 59, 3) := by decide +kernel
theorem dX1_copyFrom_29 : decode cX1_copyFrom 29 = .ok (.putfield 59, 3) := by decide +kernel
theorem dX1_copyFrom_32 : decode cX1_copyFrom 32 = .ok (.aload_n 0, 1) := by decide +kernel
theorem dX1_copyFrom_33 : decode cX1_copyFrom 33 = .ok (.aload_n 1, 1) := by decide +kernel
theorem dX1_copyFrom_34 : decode cX1_copyFrom 34 = .ok (.getfield 62, 3) := by decide +kernel
theorem dX1_copyFrom_37 : decode cX1_copyFrom 37 = .ok (.putfield 62, 3) := by decide +kernel
theorem dX1_copyFrom_40 : decode cX1_copyFrom 40 = .ok (.aload_n 0, 1) := by decide +kernel
theorem dX1_copyFrom_41 : decode cX1_copyFrom 41 = .ok (.aload_n 1, 1) := by decide +kernel
theorem dX1_copyFrom_42 : decode cX1_copyFrom 42 = .ok (.getfield 65, 3) := by decide +kernel
theorem dX1_copyFrom_45 : decode cX1_copyFrom 45 = .ok (.putfield 65, 3) := by decide +kernel
theorem dX1_copyFrom_48 : decode cX1_copyFrom 48 = .ok (.aload_n 0, 1) := by decide +kernel
theorem dX1_copyFrom_49 : decode cX1_copyFrom 49 = .ok (.aload_n 1, 1) := by decide +kernel
theorem dX1_copyFrom_50 : decode cX1_copyFrom 50 = .ok (.getfield 68, 3) := by decide +kernel
theorem dX1_copyFrom_53 : decode cX1_copyFrom 53 = .ok (.putfield 68, 3) := by decide +kernel
theorem dX1_copyFrom_56 : decode cX1_copyFrom 56 = .ok (.aload_n 1, 1) := by decide +kernel
theorem dX1_copyFrom_57 : decode cX1_copyFrom 57 = .ok (.getfield 9, 3) := by decide +kernel
theorem dX1_copyFrom_60 : decode cX1_copyFrom 60 = .ok (.iconst 0, 1) := by decide +kernel
theorem dX1_copyFrom_61 : decode cX1_copyFrom 61 = .ok (.aload_n 0, 1) := by decide +kernel
theorem dX1_copyFrom_62 : decode cX1_copyFrom 62 = .ok (.getfield 9, 3) := by decide +kernel
theorem dX1_copyFrom_65 : decode cX1_copyFrom 65 = .ok (.iconst 0, 1) := by decide +kernel
theorem dX1_copyFrom_66 : decode cX1_copyFrom 66 = .ok (.aload_n 0, 1) := by decide +kernel
theorem dX1_copyFrom_67 : decode cX1_copyFrom 67 = .ok (.getfield 9, 3) := by decide +kernel
theorem dX1_copyFrom_70 : decode cX1_copyFrom 70 = .ok (.arraylength, 1) := by decide +kernel
theorem dX1_copyFrom_71 : decode cX1_copyFrom 71 = .ok (.invokestatic 71, 3) := by decide +kernel
theorem dX1_copyFrom_74 : decode cX1_copyFrom 74 = .ok (.aload_n 1, 1) := by decide +kernel
theorem dX1_copyFrom_75 : decode cX1_copyFrom 75 = .ok (.getfield 15, 3) := by decide +kernel
theorem dX1_copyFrom_78 : decode cX1_copyFrom 78 = .ok (.iconst 0, 1) := by decide +kernel
theorem dX1_copyFrom_79 : decode cX1_copyFrom 79 = .ok (.aload_n 0, 1) := by decide +kernel
theorem dX1_copyFrom_80 : decode cX1_copyFrom 80 = .ok (.getfield 15, 3) := by decide +kernel
theorem dX1_copyFrom_83 : decode cX1_copyFrom 83 = .ok (.iconst 0, 1) := by decide +kernel
theorem dX1_copyFrom_84 : decode cX1_copyFrom 84 = .ok (.iconst 4, 1) := by decide +kernel
theorem dX1_copyFrom_85 : decode cX1_copyFrom 85 = .ok (.invokestatic 71, 3) := by decide +kernel
theorem dX1_copyFrom_88 : decode cX1_copyFrom 88 = .ok (.aload_n 1, 1) := by decide +kernel
theorem dX1_copyFrom_89 : decode cX1_copyFrom 89 = .ok (.getfield 18, 3) := by decide +kernel
theorem dX1_copyFrom_92 : decode cX1_copyFrom 92 = .ok (.iconst 0, 1) := by decide +kernel
theorem dX1_copyFrom_93 : decode cX1_copyFrom 93 = .ok (.aload_n 0, 1) := by decide +kernel
theorem dX1_copyFrom_94 : decode cX1_copyFrom 94 = .ok (.getfield 18, 3) := by decide +kernel
theorem dX1_copyFrom_97 : decode cX1_copyFrom 97 = .ok (.iconst 0, 1) := by decide +kernel
theorem dX1_copyFrom_98 : decode cX1_copyFrom 98 = .ok (.iconst 4, 1) := by decide +kernel
theorem dX1_copyFrom_99 : decode cX1_copyFrom 99 = .ok (.invokestatic 71, 3) := by decide +kernel
theorem dX1_copyFrom_102 : decode cX1_copyFrom 102 = .ok (.aload_n 1, 1) := by decide +kernel
theorem dX1_copyFrom_103 : decode cX1_copyFrom 103 = .ok (.getfield 21, 3) := by decide +kernel
theorem dX1_copyFrom_106 : decode cX1_copyFrom 106 = .ok (.iconst 0, 1) := by decide +kernel
theorem dX1_copyFrom_107 : decode cX1_copyFrom 107 = .ok (.aload_n 0, 1) := by decide +kernel
theorem dX1_copyFrom_108 : decode cX1_copyFrom 108 = .ok (.getfield 21, 3) := by decide +kernel
theorem dX1_copyFrom_111 : decode cX1_copyFrom 111 = .ok (.iconst 0, 1) := by decide +kernel
theorem dX1_copyFrom_112 : decode cX1_copyFrom 112 = .ok (.iconst 4, 1) := by decide +kernel
theorem dX1_copyFrom_113 : decode cX1_copyFrom 113 = .ok (.invokestatic 71, 3) := by decide +kernel
theorem dX1_copyFrom_116 : decode cX1_copyFrom 116 = .ok (.aload_n 1, 1) := by decide +kernel
theorem dX1_copyFrom_117 : decode cX1_copyFrom 117 = .ok (.getfield 24, 3) := by decide +kernel
theorem dX1_copyFrom_120 : decode cX1_copyFrom 120 = .ok (.iconst 0, 1) := by decide +kernel
theorem dX1_copyFrom_121 : decode cX1_copyFrom 121 = .ok (.aload_n 0, 1) := by decide +kernel
theorem dX1_copyFrom_122 : decode cX1_copyFrom 122 = .ok (.getfield 24, 3) := by decide +kernel
theorem dX1_copyFrom_125 : decode cX1_copyFrom 125 = .ok (.iconst 0, 1) := by decide +kernel
theorem dX1_copyFrom_126 : decode cX1_copyFrom 126 = .ok (.iconst 4, 1) := by decide +kernel
theorem dX1_copyFrom_127 : decode cX1_copyFrom 127 = .ok (.invokestatic 71, 3) := by decide +kernel
theorem dX1_copyFrom_130 : decode cX1_copyFrom 130 = .ok (.aload_n 1, 1) := by decide +kernel
theorem dX1_copyFrom_131 : decode cX1_copyFrom 131 = .ok (.getfield 27, 3) := by decide +kernel
theorem dX1_copyFrom_134 : decode cX1_copyFrom 134 = .ok (.iconst 0, 1) := by decide +kernel
theorem dX1_copyFrom_135 : decode cX1_copyFrom 135 = .ok (.aload_n 0, 1) := by decide +kernel
theorem dX1_copyFrom_136 : decode cX1_copyFrom 136 = .ok (.getfield 27, 3) := by decide +kernel
theorem dX1_copyFrom_139 : decode cX1_copyFrom 139 = .ok (.iconst 0, 1) := by decide +kernel
theorem dX1_copyFrom_140 : decode cX1_copyFrom 140 = .ok (.iconst 4, 1) := by decide +kernel
theorem dX1_copyFrom_141 : decode cX1_copyFrom 141 = .ok (.invokestatic 71, 3) := by decide +kernel
theorem dX1_copyFrom_144 : decode cX1_copyFrom 144 = .ok (.aload_n 1, 1) := by decide +kernel
theorem dX1_copyFrom_145 : decode cX1_copyFrom 145 = .ok (.getfield 30, 3) := by decide +kernel
theorem dX1_copyFrom_148 : decode cX1_copyFrom 148 = .ok (.iconst 0, 1) := by decide +kernel
theorem dX1_copyFrom_149 : decode cX1_copyFrom 149 = .ok (.aload_n 0, 1) := by decide +kernel
theorem dX1_copyFrom_150 : decode cX1_copyFrom 150 = .ok (.getfield 30, 3) := by decide +kernel
theorem dX1_copyFrom_153 : decode cX1_copyFrom 153 = .ok (.iconst 0, 1) := by decide +kernel
theorem dX1_copyFrom_154 : decode cX1_copyFrom 154 = .ok (.iconst 4, 1) := by decide +kernel
theorem dX1_copyFrom_155 : decode cX1_copyFrom 155 = .ok (.invokestatic 71, 3) := by decide +kernel
theorem dX1_copyFrom_158 : decode cX1_copyFrom 158 = .ok (.aload_n 1, 1) := by decide +kernel
theorem dX1_copyFrom_159 : decode cX1_copyFrom 159 = .ok (.getfield 33, 3) := by decide +kernel
theorem dX1_copyFrom_162 : decode cX1_copyFrom 162 = .ok (.iconst 0, 1) := by decide +kernel
theorem dX1_copyFrom_163 : decode cX1_copyFrom 163 = .ok (.aload_n 0, 1) := by decide +kernel
theorem dX1_copyFrom_164 : decode cX1_copyFrom 164 = .ok (.getfield 33, 3) := by decide +kernel
theorem dX1_copyFrom_167 : decode cX1_copyFrom 167 = .ok (.iconst 0, 1) := by decide +kernel
theorem dX1_copyFrom_168 : decode cX1_copyFrom 168 = .ok (.iconst 4, 1) := by decide +kernel
theorem dX1_copyFrom_169 : decode cX1_copyFrom 169 = .ok (.invokestatic 71, 3) := by decide +kernel
theorem dX1_copyFrom_172 : decode cX1_copyFrom 172 = .ok (.aload_n 1, 1) := by decide +kernel
theorem dX1_copyFrom_173 : decode cX1_copyFrom 173 = .ok (.getfield 36, 3) := by decide +kernel
theorem dX1_copyFrom_176 : decode cX1_copyFrom 176 = .ok (.iconst 0, 1) := by decide +kernel
theorem dX1_copyFrom_177 : decode cX1_copyFrom 177 = .ok (.aload_n 0, 1) := by decide +kernel
theorem dX1_copyFrom_178 : decode cX1_copyFrom 178 = .ok (.getfield 36, 3) := by decide +kernel
theorem dX1_copyFrom_181 : decode cX1_copyFrom 181 = .ok (.iconst 0, 1) := by decide +kernel
theorem dX1_copyFrom_182 : decode cX1_copyFrom 182 = .ok (.iconst 4, 1) := by decide +kernel
theorem dX1_copyFrom_183 : decode cX1_copyFrom 183 = .ok (.invokestatic 71, 3) := by decide +kernel
theorem dX1_copyFrom_186 : decode cX1_copyFrom 186 = .ok (.return_, 1) := by decide +kernel
theorem dX1_number_0 : decode cX1_number 0 = .ok (.iload_n 1, 1) := by decide +kernel
theorem dX1_number_1 : decode cX1_number 1 = .ok (.tableswitch 126 0 11 #[63, 68, 73, 78, 84, 90, 96, 101, 106, 111, 116, 121], 63) := by decide +kernel
theorem dX1_number_64 : decode cX1_number 64 = .ok (.aload_n 0, 1) := by decide +kernel
theorem dX1_number_65 : decode cX1_number 65 = .ok (.getfield 49, 3) := by decide +kernel
theorem dX1_number_68 : decode cX1_number 68 = .ok (.ireturn, 1) := by decide +kernel
theorem dX1_number_69 : decode cX1_number 69 = .ok (.aload_n 0, 1) := by decide +kernel
theorem dX1_number_70 : decode cX1_number 70 = .ok (.getfield 53, 3) := by decide +kernel
theorem dX1_number_73 : decode cX1_number 73 = .ok (.ireturn, 1) := by decide +kernel
theorem dX1_number_74 : decode cX1_number 74 = .ok (.aload_n 0, 1) := by decide +kernel
theorem dX1_number_75 : decode cX1_number 75 = .ok (.invokevirtual 77, 3) := by decide +kernel
theorem dX1_number_78 : decode cX1_number 78 = .ok (.ireturn, 1) := by decide +kernel
theorem dX1_number_79 : decode cX1_number 79 = .ok (.aload_n 0, 1) := by decide +kernel
theorem dX1_number_80 : decode cX1_number 80 = .ok (.iconst 0, 1) := by decide +kernel
theorem dX1_number_81 : decode cX1_number 81 = .ok (.invokevirtual 81, 3) := by decide +kernel
theorem dX1_number_84 : decode cX1_number 84 = .ok (.ireturn, 1) := by decide +kernel
theorem dX1_number_85 : decode cX1_number 85 = .ok (.aload_n 0, 1) := by decide +kernel
theorem dX1_number_86 : decode cX1_number 86 = .ok (.iconst 1, 1) := by decide +kernel
theorem dX1_number_87 : decode cX1_number 87 = .ok (.invokevirtual 81, 3) := by decide +kernel
theorem dX1_number_90 : decode cX1_number 90 = .ok (.ireturn, 1) := by decide +kernel
theorem dX1_number_91 : decode cX1_number 91 = .ok (.aload_n 0, 1) := by decide +kernel
theorem dX1_number_92 : decode cX1_number 92 = .ok (.iconst 2, 1) := by decide +kernel
theorem dX1_number_93 : decode cX1_number 93 = .ok (.invokevirtual 81, 3) := by decide +kernel
theorem dX1_number_96 : decode cX1_number 96 = .ok (.ireturn, 1) := by decide +kernel
theorem dX1_number_97 : decode cX1_number 97 = .ok (.aload_n 0, 1) := by decide +kernel
theorem dX1_number_98 : decode cX1_number 98 = .ok (.getfield 56, 3) := by decide +kernel
theorem dX1_number_101 : decode cX1_number 101 = .ok (.ireturn, 1) := by decide +kernel
theorem dX1_number_102 : decode cX1_number 102 = .ok (.aload_n 0, 1) := by decide +kernel
theorem dX1_number_103 : decode cX1_number 103 = .ok (.getfield 59, 3) := by decide +kernel
theorem dX1_number_106 : decode cX1_number 106 = .ok (.ireturn, 1) := by decide +kernel
theorem dX1_number_107 : decode cX1_number 107 = .ok (.aload_n 0, 1) := by decide +kernel
theorem dX1_number_108 : decode cX1_number 108 = .ok (.getfield 62, 3) := by decide +kernel
theorem dX1_number_111 : decode cX1_number 111 = .ok (.ireturn, 1) := by decide +kernel
theorem dX1_number_112 : decode cX1_number 112 = .ok (.aload_n 0, 1) := by decide +kernel
theorem dX1_number_113 : decode cX1_number 113 = .ok (.getfield 65, 3) := by decide +kernel
theorem dX1_number_116 : decode cX1_number 116 = .ok (.ireturn, 1) := by decide +kernel
theorem dX1_number_117 : decode cX1_number 117 = .ok (.aload_n 0, 1) := by decide +kernel
theorem dX1_number_118 : decode cX1_number 118 = .ok (.invokevirtual 85, 3) := by decide +kernel
theorem dX1_number_121 : decode cX1_number 121 = .ok (.ireturn, 1) := by decide +kernel
theorem dX1_number_122 : decode cX1_number 122 = .ok (.aload_n 0, 1) := by decide +kernel
theorem dX1_number_123 : decode cX1_number 123 = .ok (.getfield 68, 3) := by decide +kernel
theorem dX1_number_126 : decode cX1_number 126 = .ok (.ireturn, 1) := by decide +kernel
theorem dX1_number_127 : decode cX1_number 127 = .ok (.iconst (-1), 1) := by decide +kernel
theorem dX1_number_128 : decode cX1_number 128 = .ok (.ireturn, 1) := by decide +kernel
theorem dX1_guestNumber_0 : decode cX1_guestNumber 0 = .ok (.aload_n 0, 1) := by decide +kernel
theorem dX1_guestNumber_1 : decode cX1_guestNumber 1 = .ok (.iload_n 1, 1) := by decide +kernel
theorem dX1_guestNumber_2 : decode cX1_guestNumber 2 = .ok (.invokevirtual 88, 3) := by decide +kernel
theorem dX1_guestNumber_5 : decode cX1_guestNumber 5 = .ok (.ifCond .ne 5, 3) := by decide +kernel
theorem dX1_guestNumber_8 : decode cX1_guestNumber 8 = .ok (.iconst (-1), 1) := by decide +kernel
theorem dX1_guestNumber_9 : decode cX1_guestNumber 9 = .ok (.ireturn, 1) := by decide +kernel
theorem dX1_guestNumber_10 : decode cX1_guestNumber 10 = .ok (.iload_n 2, 1) := by decide +kernel
theorem dX1_guestNumber_11 : decode cX1_guestNumber 11 = .ok (.tableswitch 100 0 7 #[45, 52, 59, 66, 73, 79, 86, 93], 45) := by decide +kernel
theorem dX1_guestNumber_56 : decode cX1_guestNumber 56 = .ok (.aload_n 0, 1) := by decide +kernel
theorem dX1_guestNumber_57 : decode cX1_guestNumber 57 = .ok (.getfield 15, 3) := by decide +kernel
theorem dX1_guestNumber_60 : decode cX1_guestNumber 60 = .ok (.iload_n 1, 1) := by decide +kernel
theorem dX1_guestNumber_61 : decode cX1_guestNumber 61 = .ok (.iaload, 1) := by decide +kernel
theorem dX1_guestNumber_62 : decode cX1_guestNumber 62 = .ok (.ireturn, 1) := by decide +kernel
theorem dX1_guestNumber_63 : decode cX1_guestNumber 63 = .ok (.aload_n 0, 1) := by decide +kernel
theorem dX1_guestNumber_64 : decode cX1_guestNumber 64 = .ok (.getfield 21, 3) := by decide +kernel
theorem dX1_guestNumber_67 : decode cX1_guestNumber 67 = .ok (.iload_n 1, 1) := by decide +kernel
theorem dX1_guestNumber_68 : decode cX1_guestNumber 68 = .ok (.iaload, 1) := by decide +kernel
theorem dX1_guestNumber_69 : decode cX1_guestNumber 69 = .ok (.ireturn, 1) := by decide +kernel
theorem dX1_guestNumber_70 : decode cX1_guestNumber 70 = .ok (.aload_n 0, 1) := by decide +kernel
theorem dX1_guestNumber_71 : decode cX1_guestNumber 71 = .ok (.getfield 24, 3) := by decide +kernel
theorem dX1_guestNumber_74 : decode cX1_guestNumber 74 = .ok (.iload_n 1, 1) := by decide +kernel
theorem dX1_guestNumber_75 : decode cX1_guestNumber 75 = .ok (.iaload, 1) := by decide +kernel
theorem dX1_guestNumber_76 : decode cX1_guestNumber 76 = .ok (.ireturn, 1) := by decide +kernel
theorem dX1_guestNumber_77 : decode cX1_guestNumber 77 = .ok (.aload_n 0, 1) := by decide +kernel
theorem dX1_guestNumber_78 : decode cX1_guestNumber 78 = .ok (.getfield 27, 3) := by decide +kernel
theorem dX1_guestNumber_81 : decode cX1_guestNumber 81 = .ok (.iload_n 1, 1) := by decide +kernel
theorem dX1_guestNumber_82 : decode cX1_guestNumber 82 = .ok (.iaload, 1) := by decide +kernel
theorem dX1_guestNumber_83 : decode cX1_guestNumber 83 = .ok (.ireturn, 1) := by decide +kernel
theorem dX1_guestNumber_84 : decode cX1_guestNumber 84 = .ok (.aload_n 0, 1) := by decide +kernel
theorem dX1_guestNumber_85 : decode cX1_guestNumber 85 = .ok (.iload_n 1, 1) := by decide +kernel
theorem dX1_guestNumber_86 : decode cX1_guestNumber 86 = .ok (.invokevirtual 91, 3) := by decide +kernel
theorem dX1_guestNumber_89 : decode cX1_guestNumber 89 = .ok (.ireturn, 1) := by decide +kernel
theorem dX1_guestNumber_90 : decode cX1_guestNumber 90 = .ok (.aload_n 0, 1) := by decide +kernel
theorem dX1_guestNumber_91 : decode cX1_guestNumber 91 = .ok (.getfield 30, 3) := by decide +kernel
theorem dX1_guestNumber_94 : decode cX1_guestNumber 94 = .ok (.iload_n 1, 1) := by decide +kernel
theorem dX1_guestNumber_95 : decode cX1_guestNumber 95 = .ok (.iaload, 1) := by decide +kernel
theorem dX1_guestNumber_96 : decode cX1_guestNumber 96 = .ok (.ireturn, 1) := by decide +kernel
theorem dX1_guestNumber_97 : decode cX1_guestNumber 97 = .ok (.aload_n 0, 1) := by decide +kernel
theorem dX1_guestNumber_98 : decode cX1_guestNumber 98 = .ok (.getfield 33, 3) := by decide +kernel
theorem dX1_guestNumber_101 : decode cX1_guestNumber 101 = .ok (.iload_n 1, 1) := by decide +kernel
theorem dX1_guestNumber_102 : decode cX1_guestNumber 102 = .ok (.iaload, 1) := by decide +kernel
theorem dX1_guestNumber_103 : decode cX1_guestNumber 103 = .ok (.ireturn, 1) := by decide +kernel
theorem dX1_guestNumber_104 : decode cX1_guestNumber 104 = .ok (.aload_n 0, 1) := by decide +kernel
theorem dX1_guestNumber_105 : decode cX1_guestNumber 105 = .ok (.getfield 36, 3) := by decide +kernel
theorem dX1_guestNumber_108 : decode cX1_guestNumber 108 = .ok (.iload_n 1, 1) := by decide +kernel
theorem dX1_guestNumber_109 : decode cX1_guestNumber 109 = .ok (.iaload, 1) := by decide +kernel
theorem dX1_guestNumber_110 : decode cX1_guestNumber 110 = .ok (.ireturn, 1) := by decide +kernel
theorem dX1_guestNumber_111 : decode cX1_guestNumber 111 = .ok (.iconst (-1), 1) := by decide +kernel
theorem dX1_guestNumber_112 : decode cX1_guestNumber 112 = .ok (.ireturn, 1) := by decide +kernel
theorem dX1_stateOf_0 : decode cX1_stateOf 0 = .ok (.aload_n 0, 1) := by decide +kernel
theorem dX1_stateOf_1 : decode cX1_stateOf 1 = .ok (.iload_n 1, 1) := by decide +kernel
theorem dX1_stateOf_2 : decode cX1_stateOf 2 = .ok (.invokevirtual 88, 3) := by decide +kernel
theorem dX1_stateOf_5 : decode cX1_stateOf 5 = .ok (.ifCond .eq 12, 3) := by decide +kernel
theorem dX1_stateOf_8 : decode cX1_stateOf 8 = .ok (.aload_n 0, 1) := by decide +kernel
theorem dX1_stateOf_9 : decode cX1_stateOf 9 = .ok (.getfield 27, 3) := by decide +kernel
theorem dX1_stateOf_12 : decode cX1_stateOf 12 = .ok (.iload_n 1, 1) := by decide +kernel
theorem dX1_stateOf_13 : decode cX1_stateOf 13 = .ok (.iaload, 1) := by decide +kernel
theorem dX1_stateOf_14 : decode cX1_stateOf 14 = .ok (.goto 4, 3) := by decide +kernel
theorem dX1_stateOf_17 : decode cX1_stateOf 17 = .ok (.iconst (-1), 1) := by decide +kernel
theorem dX1_stateOf_18 : decode cX1_stateOf 18 = .ok (.ireturn, 1) := by decide +kernel
theorem dX1_grudgesOf_0 : decode cX1_grudgesOf 0 = .ok (.aload_n 0, 1) := by decide +kernel
theorem dX1_grudgesOf_1 : decode cX1_grudgesOf 1 = .ok (.iload_n 1, 1) := by decide +kernel
theorem dX1_grudgesOf_2 : decode cX1_grudgesOf 2 = .ok (.invokevirtual 88, 3) := by decide +kernel
theorem dX1_grudgesOf_5 : decode cX1_grudgesOf 5 = .ok (.ifCond .eq 12, 3) := by decide +kernel
theorem dX1_grudgesOf_8 : decode cX1_grudgesOf 8 = .ok (.aload_n 0, 1) := by decide +kernel
theorem dX1_grudgesOf_9 : decode cX1_grudgesOf 9 = .ok (.getfield 30, 3) := by decide +kernel
theorem dX1_grudgesOf_12 : decode cX1_grudgesOf 12 = .ok (.iload_n 1, 1) := by decide +kernel
theorem dX1_grudgesOf_13 : decode cX1_grudgesOf 13 = .ok (.iaload, 1) := by decide +kernel
theorem dX1_grudgesOf_14 : decode cX1_grudgesOf 14 = .ok (.goto 4, 3) := by decide +kernel
theorem dX1_grudgesOf_17 : decode cX1_grudgesOf 17 = .ok (.iconst (-1), 1) := by decide +kernel
theorem dX1_grudgesOf_18 : decode cX1_grudgesOf 18 = .ok (.ireturn, 1) := by decide +kernel
theorem dX1_settingOf_0 : decode cX1_settingOf 0 = .ok (.iload_n 1, 1) := by decide +kernel
theorem dX1_settingOf_1 : decode cX1_settingOf 1 = .ok (.invokestatic 42, 3) := by decide +kernel
theorem dX1_settingOf_4 : decode cX1_settingOf 4 = .ok (.ifCond .eq 12, 3) := by decide +kernel
theorem dX1_settingOf_7 : decode cX1_settingOf 7 = .ok (.aload_n 0, 1) := by decide +kernel
theorem dX1_settingOf_8 : decode cX1_settingOf 8 = .ok (.getfield 9, 3) := by decide +kernel
theorem dX1_settingOf_11 : decode cX1_settingOf 11 = .ok (.iload_n 1, 1) := by decide +kernel
theorem dX1_settingOf_12 : decode cX1_settingOf 12 = .ok (.iaload, 1) := by decide +kernel
theorem dX1_settingOf_13 : decode cX1_settingOf 13 = .ok (.goto 4, 3) := by decide +kernel
theorem dX1_settingOf_16 : decode cX1_settingOf 16 = .ok (.iconst (-1), 1) := by decide +kernel
theorem dX1_settingOf_17 : decode cX1_settingOf 17 = .ok (.ireturn, 1) := by decide +kernel
theorem dX1_floorSet_0 : decode cX1_floorSet 0 = .ok (.iconst 0, 1) := by decide +kernel
theorem dX1_floorSet_1 : decode cX1_floorSet 1 = .ok (.istore_n 3, 1) := by decide +kernel
theorem dX1_floorSet_2 : decode cX1_floorSet 2 = .ok (.iconst 0, 1) := by decide +kernel
theorem dX1_floorSet_3 : decode cX1_floorSet 3 = .ok (.istore 4, 2) := by decide +kernel
theorem dX1_floorSet_5 : decode cX1_floorSet 5 = .ok (.iload 4, 2) := by decide +kernel
theorem dX1_floorSet_7 : decode cX1_floorSet 7 = .ok (.aload_n 0, 1) := by decide +kernel
theorem dX1_floorSet_8 : decode cX1_floorSet 8 = .ok (.getfield 49, 3) := by decide +kernel
theorem dX1_floorSet_11 : decode cX1_floorSet 11 = .ok (.if_icmp .ge 27, 3) := by decide +kernel
theorem dX1_floorSet_14 : decode cX1_floorSet 14 = .ok (.aload_n 0, 1) := by decide +kernel
theorem dX1_floorSet_15 : decode cX1_floorSet 15 = .ok (.iload 4, 2) := by decide +kernel
theorem dX1_floorSet_17 : decode cX1_floorSet 17 = .ok (.iload_n 1, 1) := by decide +kernel
theorem dX1_floorSet_18 : decode cX1_floorSet 18 = .ok (.iload_n 2, 1) := by decide +kernel
theorem dX1_floorSet_19 : decode cX1_floorSet 19 = .ok (.invokevirtual 94, 3) := by decide +kernel
theorem dX1_floorSet_22 : decode cX1_floorSet 22 = .ok (.ifCond .eq 10, 3) := by decide +kernel
theorem dX1_floorSet_25 : decode cX1_floorSet 25 = .ok (.iload_n 3, 1) := by decide +kernel
theorem dX1_floorSet_26 : decode cX1_floorSet 26 = .ok (.iconst 1, 1) := by decide +kernel
theorem dX1_floorSet_27 : decode cX1_floorSet 27 = .ok (.iload 4, 2) := by decide +kernel
theorem dX1_floorSet_29 : decode cX1_floorSet 29 = .ok (.ishl, 1) := by decide +kernel
theorem dX1_floorSet_30 : decode cX1_floorSet 30 = .ok (.ior, 1) := by decide +kernel
theorem dX1_floorSet_31 : decode cX1_floorSet 31 = .ok (.istore_n 3, 1) := by decide +kernel
theorem dX1_floorSet_32 : decode cX1_floorSet 32 = .ok (.iinc 4 1, 3) := by decide +kernel
theorem dX1_floorSet_35 : decode cX1_floorSet 35 = .ok (.goto (-30), 3) := by decide +kernel
theorem dX1_floorSet_38 : decode cX1_floorSet 38 = .ok (.iload_n 3, 1) := by decide +kernel
theorem dX1_floorSet_39 : decode cX1_floorSet 39 = .ok (.ireturn, 1) := by decide +kernel
theorem dX1_belongsTo_0 : decode cX1_belongsTo 0 = .ok (.iload_n 1, 1) := by decide +kernel
theorem dX1_belongsTo_1 : decode cX1_belongsTo 1 = .ok (.ifCond .lt 11, 3) := by decide +kernel
theorem dX1_belongsTo_4 : decode cX1_belongsTo 4 = .ok (.iload_n 1, 1) := by decide +kernel
theorem dX1_belongsTo_5 : decode cX1_belongsTo 5 = .ok (.aload_n 0, 1) := by decide +kernel
theorem dX1_belongsTo_6 : decode cX1_belongsTo 6 = .ok (.getfield 49, 3) := by decide +kernel
theorem dX1_belongsTo_9 : decode cX1_belongsTo 9 = .ok (.if_icmp .lt 5, 3) := by decide +kernel
theorem dX1_belongsTo_12 : decode cX1_belongsTo 12 = .ok (.iconst 0, 1) := by decide +kernel
theorem dX1_belongsTo_13 : decode cX1_belongsTo 13 = .ok (.ireturn, 1) := by decide +kernel
theorem dX1_belongsTo_14 : decode cX1_belongsTo 14 = .ok (.iload_n 3, 1) := by decide +kernel
theorem dX1_belongsTo_15 : decode cX1_belongsTo 15 = .ok (.lookupswitch 76 #[(0, 25), (1, 50)], 25) := by decide +kernel
theorem dX1_belongsTo_40 : decode cX1_belongsTo 40 = .ok (.aload_n 0, 1) := by decide +kernel
theorem dX1_belongsTo_41 : decode cX1_belongsTo 41 = .ok (.getfield 27, 3) := by decide +kernel
theorem dX1_belongsTo_44 : decode cX1_belongsTo 44 = .ok (.iload_n 1, 1) := by decide +kernel
theorem dX1_belongsTo_45 : decode cX1_belongsTo 45 = .ok (.iaload, 1) := by decide +kernel
theorem dX1_belongsTo_46 : decode cX1_belongsTo 46 = .ok (.ifCond .ne 17, 3) := by decide +kernel
theorem dX1_belongsTo_49 : decode cX1_belongsTo 49 = .ok (.aload_n 0, 1) := by decide +kernel
theorem dX1_belongsTo_50 : decode cX1_belongsTo 50 = .ok (.getfield 18, 3) := by decide +kernel
theorem dX1_belongsTo_53 : decode cX1_belongsTo 53 = .ok (.iload_n 1, 1) := by decide +kernel
theorem dX1_belongsTo_54 : decode cX1_belongsTo 54 = .ok (.iaload, 1) := by decide +kernel
theorem dX1_belongsTo_55 : decode cX1_belongsTo 55 = .ok (.iload_n 2, 1) := by decide +kernel
theorem dX1_belongsTo_56 : decode cX1_belongsTo 56 = .ok (.if_icmp .ne 7, 3) := by decide +kernel
theorem dX1_belongsTo_59 : decode cX1_belongsTo 59 = .ok (.iconst 1, 1) := by decide +kernel
theorem dX1_belongsTo_60 : decode cX1_belongsTo 60 = .ok (.goto 4, 3) := by decide +kernel
theorem dX1_belongsTo_63 : decode cX1_belongsTo 63 = .ok (.iconst 0, 1) := by decide +kernel
theorem dX1_belongsTo_64 : decode cX1_belongsTo 64 = .ok (.ireturn, 1) := by decide +kernel
theorem dX1_belongsTo_65 : decode cX1_belongsTo 65 = .ok (.aload_n 0, 1) := by decide +kernel
theorem dX1_belongsTo_66 : decode cX1_belongsTo 66 = .ok (.getfield 27, 3) := by decide +kernel
theorem dX1_belongsTo_69 : decode cX1_belongsTo 69 = .ok (.iload_n 1, 1) := by decide +kernel
theorem dX1_belongsTo_70 : decode cX1_belongsTo 70 = .ok (.iaload, 1) := by decide +kernel
theorem dX1_belongsTo_71 : decode cX1_belongsTo 71 = .ok (.iconst 2, 1) := by decide +kernel
theorem dX1_belongsTo_72 : decode cX1_belongsTo 72 = .ok (.if_icmp .ne 17, 3) := by decide +kernel
theorem dX1_belongsTo_75 : decode cX1_belongsTo 75 = .ok (.aload_n 0, 1) := by decide +kernel
theorem dX1_belongsTo_76 : decode cX1_belongsTo 76 = .ok (.getfield 21, 3) := by decide +kernel
theorem dX1_belongsTo_79 : decode cX1_belongsTo 79 = .ok (.iload_n 1, 1) := by decide +kernel
theorem dX1_belongsTo_80 : decode cX1_belongsTo 80 = .ok (.iaload, 1) := by decide +kernel
theorem dX1_belongsTo_81 : decode cX1_belongsTo 81 = .ok (.iload_n 2, 1) := by decide +kernel
theorem dX1_belongsTo_82 : decode cX1_belongsTo 82 = .ok (.if_icmp .ne 7, 3) := by decide +kernel
theorem dX1_belongsTo_85 : decode cX1_belongsTo 85 = .ok (.iconst 1, 1) := by decide +kernel
theorem dX1_belongsTo_86 : decode cX1_belongsTo 86 = .ok (.goto 4, 3) := by decide +kernel
theorem dX1_belongsTo_89 : decode cX1_belongsTo 89 = .ok (.iconst 0, 1) := by decide +kernel
theorem dX1_belongsTo_90 : decode cX1_belongsTo 90 = .ok (.ireturn, 1) := by decide +kernel
theorem dX1_belongsTo_91 : decode cX1_belongsTo 91 = .ok (.aload_n 0, 1) := by decide +kernel
theorem dX1_belongsTo_92 : decode cX1_belongsTo 92 = .ok (.getfield 15, 3) := by decide +kernel
theorem dX1_belongsTo_95 : decode cX1_belongsTo 95 = .ok (.iload_n 1, 1) := by decide +kernel
theorem dX1_belongsTo_96 : decode cX1_belongsTo 96 = .ok (.iaload, 1) := by decide +kernel
theorem dX1_belongsTo_97 : decode cX1_belongsTo 97 = .ok (.iload_n 2, 1) := by decide +kernel
theorem dX1_belongsTo_98 : decode cX1_belongsTo 98 = .ok (.if_icmp .ne 7, 3) := by decide +kernel
theorem dX1_belongsTo_101 : decode cX1_belongsTo 101 = .ok (.iconst 1, 1) := by decide +kernel
theorem dX1_belongsTo_102 : decode cX1_belongsTo 102 = .ok (.goto 4, 3) := by decide +kernel
theorem dX1_belongsTo_105 : decode cX1_belongsTo 105 = .ok (.iconst 0, 1) := by decide +kernel
theorem dX1_belongsTo_106 : decode cX1_belongsTo 106 = .ok (.ireturn, 1) := by decide +kernel
theorem dX1_whereIs_0 : decode cX1_whereIs 0 = .ok (.aload_n 0, 1) := by decide +kernel
theorem dX1_whereIs_1 : decode cX1_whereIs 1 = .ok (.iload_n 1, 1) := by decide +kernel
theorem dX1_whereIs_2 : decode cX1_whereIs 2 = .ok (.invokevirtual 88, 3) := by decide +kernel
theorem dX1_whereIs_5 : decode cX1_whereIs 5 = .ok (.ifCond .ne 5, 3) := by decide +kernel
theorem dX1_whereIs_8 : decode cX1_whereIs 8 = .ok (.iconst (-1), 1) := by decide +kernel
theorem dX1_whereIs_9 : decode cX1_whereIs 9 = .ok (.ireturn, 1) := by decide +kernel
theorem dX1_whereIs_10 : decode cX1_whereIs 10 = .ok (.aload_n 0, 1) := by decide +kernel
theorem dX1_whereIs_11 : decode cX1_whereIs 11 = .ok (.getfield 27, 3) := by decide +kernel
theorem dX1_whereIs_14 : decode cX1_whereIs 14 = .ok (.iload_n 1, 1) := by decide +kernel
theorem dX1_whereIs_15 : decode cX1_whereIs 15 = .ok (.iaload, 1) := by decide +kernel
theorem dX1_whereIs_16 : decode cX1_whereIs 16 = .ok (.iconst 1, 1) := by decide +kernel
theorem dX1_whereIs_17 : decode cX1_whereIs 17 = .ok (.if_icmp .ne 8, 3) := by decide +kernel
theorem dX1_whereIs_20 : decode cX1_whereIs 20 = .ok (.aload_n 0, 1) := by decide +kernel
theorem dX1_whereIs_21 : decode cX1_whereIs 21 = .ok (.getfield 53, 3) := by decide +kernel
theorem dX1_whereIs_24 : decode cX1_whereIs 24 = .ok (.ireturn, 1) := by decide +kernel
theorem dX1_whereIs_25 : decode cX1_whereIs 25 = .ok (.aload_n 0, 1) := by decide +kernel
theorem dX1_whereIs_26 : decode cX1_whereIs 26 = .ok (.getfield 27, 3) := by decide +kernel
theorem dX1_whereIs_29 : decode cX1_whereIs 29 = .ok (.iload_n 1, 1) := by decide +kernel
theorem dX1_whereIs_30 : decode cX1_whereIs 30 = .ok (.iaload, 1) := by decide +kernel
theorem dX1_whereIs_31 : decode cX1_whereIs 31 = .ok (.iconst 2, 1) := by decide +kernel
theorem dX1_whereIs_32 : decode cX1_whereIs 32 = .ok (.if_icmp .ne 12, 3) := by decide +kernel
theorem dX1_whereIs_35 : decode cX1_whereIs 35 = .ok (.aload_n 0, 1) := by decide +kernel
theorem dX1_whereIs_36 : decode cX1_whereIs 36 = .ok (.getfield 21, 3) := by decide +kernel
theorem dX1_whereIs_39 : decode cX1_whereIs 39 = .ok (.iload_n 1, 1) := by decide +kernel
theorem dX1_whereIs_40 : decode cX1_whereIs 40 = .ok (.iaload, 1) := by decide +kernel
theorem dX1_whereIs_41 : decode cX1_whereIs 41 = .ok (.goto 9, 3) := by decide +kernel
theorem dX1_whereIs_44 : decode cX1_whereIs 44 = .ok (.aload_n 0, 1) := by decide +kernel
theorem dX1_whereIs_45 : decode cX1_whereIs 45 = .ok (.getfield 18, 3) := by decide +kernel
theorem dX1_whereIs_48 : decode cX1_whereIs 48 = .ok (.iload_n 1, 1) := by decide +kernel
theorem dX1_whereIs_49 : decode cX1_whereIs 49 = .ok (.iaload, 1) := by decide +kernel
theorem dX1_whereIs_50 : decode cX1_whereIs 50 = .ok (.ireturn, 1) := by decide +kernel
theorem dX1_guestsIn_0 : decode cX1_guestsIn 0 = .ok (.iconst 0, 1) := by decide +kernel
theorem dX1_guestsIn_1 : decode cX1_guestsIn 1 = .ok (.istore_n 2, 1) := by decide +kernel
theorem dX1_guestsIn_2 : decode cX1_guestsIn 2 = .ok (.iconst 0, 1) := by decide +kernel
theorem dX1_guestsIn_3 : decode cX1_guestsIn 3 = .ok (.istore_n 3, 1) := by decide +kernel
theorem dX1_guestsIn_4 : decode cX1_guestsIn 4 = .ok (.iload_n 3, 1) := by decide +kernel
theorem dX1_guestsIn_5 : decode cX1_guestsIn 5 = .ok (.aload_n 0, 1) := by decide +kernel
theorem dX1_guestsIn_6 : decode cX1_guestsIn 6 = .ok (.getfield 49, 3) := by decide +kernel
theorem dX1_guestsIn_9 : decode cX1_guestsIn 9 = .ok (.if_icmp .ge 22, 3) := by decide +kernel
theorem dX1_guestsIn_12 : decode cX1_guestsIn 12 = .ok (.aload_n 0, 1) := by decide +kernel
theorem dX1_guestsIn_13 : decode cX1_guestsIn 13 = .ok (.getfield 27, 3) := by decide +kernel
theorem dX1_guestsIn_16 : decode cX1_guestsIn 16 = .ok (.iload_n 3, 1) := by decide +kernel
theorem dX1_guestsIn_17 : decode cX1_guestsIn 17 = .ok (.iaload, 1) := by decide +kernel
theorem dX1_guestsIn_18 : decode cX1_guestsIn 18 = .ok (.iload_n 1, 1) := by decide +kernel
theorem dX1_guestsIn_19 : decode cX1_guestsIn 19 = .ok (.if_icmp .ne 6, 3) := by decide +kernel
theorem dX1_guestsIn_22 : decode cX1_guestsIn 22 = .ok (.iinc 2 1, 3) := by decide +kernel
theorem dX1_guestsIn_25 : decode cX1_guestsIn 25 = .ok (.iinc 3 1, 3) := by decide +kernel
theorem dX1_guestsIn_28 : decode cX1_guestsIn 28 = .ok (.goto (-24), 3) := by decide +kernel
theorem dX1_guestsIn_31 : decode cX1_guestsIn 31 = .ok (.iload_n 2, 1) := by decide +kernel
theorem dX1_guestsIn_32 : decode cX1_guestsIn 32 = .ok (.ireturn, 1) := by decide +kernel
theorem dX1_areAllHome_0 : decode cX1_areAllHome 0 = .ok (.aload_n 0, 1) := by decide +kernel
theorem dX1_areAllHome_1 : decode cX1_areAllHome 1 = .ok (.iconst 2, 1) := by decide +kernel
theorem dX1_areAllHome_2 : decode cX1_areAllHome 2 = .ok (.invokevirtual 81, 3) := by decide +kernel
theorem dX1_areAllHome_5 : decode cX1_areAllHome 5 = .ok (.aload_n 0, 1) := by decide +kernel
theorem dX1_areAllHome_6 : decode cX1_areAllHome 6 = .ok (.getfield 49, 3) := by decide +kernel
theorem dX1_areAllHome_9 : decode cX1_areAllHome 9 = .ok (.if_icmp .ne 7, 3) := by decide +kernel
theorem dX1_areAllHome_12 : decode cX1_areAllHome 12 = .ok (.iconst 1, 1) := by decide +kernel
theorem dX1_areAllHome_13 : decode cX1_areAllHome 13 = .ok (.goto 4, 3) := by decide +kernel
theorem dX1_areAllHome_16 : decode cX1_areAllHome 16 = .ok (.iconst 0, 1) := by decide +kernel
theorem dX1_areAllHome_17 : decode cX1_areAllHome 17 = .ok (.ireturn, 1) := by decide +kernel
theorem dX1_weightOfRiders_0 : decode cX1_weightOfRiders 0 = .ok (.iconst 0, 1) := by decide +kernel
theorem dX1_weightOfRiders_1 : decode cX1_weightOfRiders 1 = .ok (.istore_n 1, 1) := by decide +kernel
theorem dX1_weightOfRiders_2 : decode cX1_weightOfRiders 2 = .ok (.iconst 0, 1) := by decide +kernel
theorem dX1_weightOfRiders_3 : decode cX1_weightOfRiders 3 = .ok (.istore_n 2, 1) := by decide +kernel
theorem dX1_weightOfRiders_4 : decode cX1_weightOfRiders 4 = .ok (.iload_n 2, 1) := by decide +kernel
theorem dX1_weightOfRiders_5 : decode cX1_weightOfRiders 5 = .ok (.aload_n 0, 1) := by decide +kernel
theorem dX1_weightOfRiders_6 : decode cX1_weightOfRiders 6 = .ok (.getfield 49, 3) := by decide +kernel
theorem dX1_weightOfRiders_9 : decode cX1_weightOfRiders 9 = .ok (.if_icmp .ge 28, 3) := by decide +kernel
theorem dX1_weightOfRiders_12 : decode cX1_weightOfRiders 12 = .ok (.aload_n 0, 1) := by decide +kernel
theorem dX1_weightOfRiders_13 : decode cX1_weightOfRiders 13 = .ok (.getfield 27, 3) := by decide +kernel
theorem dX1_weightOfRiders_16 : decode cX1_weightOfRiders 16 = .ok (.iload_n 2, 1) := by decide +kernel
theorem dX1_weightOfRiders_17 : decode cX1_weightOfRiders 17 = .ok (.iaload, 1) := by decide +kernel
theorem dX1_weightOfRiders_18 : decode cX1_weightOfRiders 18 = .ok (.iconst 1, 1) := by decide +kernel
theorem dX1_weightOfRiders_19 : decode cX1_weightOfRiders 19 = .ok (.if_icmp .ne 12, 3) := by decide +kernel
theorem dX1_weightOfRiders_22 : decode cX1_weightOfRiders 22 = .ok (.iload_n 1, 1) := by decide +kernel
theorem dX1_weightOfRiders_23 : decode cX1_weightOfRiders 23 = .ok (.aload_n 0, 1) := by decide +kernel
theorem dX1_weightOfRiders_24 : decode cX1_weightOfRiders 24 = .ok (.getfield 24, 3) := by decide +kernel
theorem dX1_weightOfRiders_27 : decode cX1_weightOfRiders 27 = .ok (.iload_n 2, 1) := by decide +kernel
theorem dX1_weightOfRiders_28 : decode cX1_weightOfRiders 28 = .ok (.iaload, 1) := by decide +kernel
theorem dX1_weightOfRiders_29 : decode cX1_weightOfRiders 29 = .ok (.iadd, 1) := by decide +kernel
theorem dX1_weightOfRiders_30 : decode cX1_weightOfRiders 30 = .ok (.istore_n 1, 1) := by decide +kernel
theorem dX1_weightOfRiders_31 : decode cX1_weightOfRiders 31 = .ok (.iinc 2 1, 3) := by decide +kernel
theorem dX1_weightOfRiders_34 : decode cX1_weightOfRiders 34 = .ok (.goto (-30), 3) := by decide +kernel
theorem dX1_weightOfRiders_37 : decode cX1_weightOfRiders 37 = .ok (.iload_n 1, 1) := by decide +kernel
theorem dX1_weightOfRiders_38 : decode cX1_weightOfRiders 38 = .ok (.ireturn, 1) := by decide +kernel
theorem dX1_allGrudges_0 : decode cX1_allGrudges 0 = .ok (.iconst 0, 1) := by decide +kernel
theorem dX1_allGrudges_1 : decode cX1_allGrudges 1 = .ok (.istore_n 1, 1) := by decide +kernel
theorem dX1_allGrudges_2 : decode cX1_allGrudges 2 = .ok (.iconst 0, 1) := by decide +kernel
theorem dX1_allGrudges_3 : decode cX1_allGrudges 3 = .ok (.istore_n 2, 1) := by decide +kernel
theorem dX1_allGrudges_4 : decode cX1_allGrudges 4 = .ok (.iload_n 2, 1) := by decide +kernel
theorem dX1_allGrudges_5 : decode cX1_allGrudges 5 = .ok (.aload_n 0, 1) := by decide +kernel
theorem dX1_allGrudges_6 : decode cX1_allGrudges 6 = .ok (.getfield 49, 3) := by decide +kernel
theorem dX1_allGrudges_9 : decode cX1_allGrudges 9 = .ok (.if_icmp .ge 18, 3) := by decide +kernel
theorem dX1_allGrudges_12 : decode cX1_allGrudges 12 = .ok (.iload_n 1, 1) := by decide +kernel
theorem dX1_allGrudges_13 : decode cX1_allGrudges 13 = .ok (.aload_n 0, 1) := by decide +kernel
theorem dX1_allGrudges_14 : decode cX1_allGrudges 14 = .ok (.getfield 30, 3) := by decide +kernel
theorem dX1_allGrudges_17 : decode cX1_allGrudges 17 = .ok (.iload_n 2, 1) := by decide +kernel
theorem dX1_allGrudges_18 : decode cX1_allGrudges 18 = .ok (.iaload, 1) := by decide +kernel
theorem dX1_allGrudges_19 : decode cX1_allGrudges 19 = .ok (.iadd, 1) := by decide +kernel
theorem dX1_allGrudges_20 : decode cX1_allGrudges 20 = .ok (.istore_n 1, 1) := by decide +kernel
theorem dX1_allGrudges_21 : decode cX1_allGrudges 21 = .ok (.iinc 2 1, 3) := by decide +kernel
theorem dX1_allGrudges_24 : decode cX1_allGrudges 24 = .ok (.goto (-20), 3) := by decide +kernel
theorem dX1_allGrudges_27 : decode cX1_allGrudges 27 = .ok (.iload_n 1, 1) := by decide +kernel
theorem dX1_allGrudges_28 : decode cX1_allGrudges 28 = .ok (.ireturn, 1) := by decide +kernel
theorem dX1_admit_0 : decode cX1_admit 0 = .ok (.iload_n 1, 1) := by decide +kernel
theorem dX1_admit_1 : decode cX1_admit 1 = .ok (.invokestatic 98, 3) := by decide +kernel
theorem dX1_admit_4 : decode cX1_admit 4 = .ok (.ifCond .eq 17, 3) := by decide +kernel
theorem dX1_admit_7 : decode cX1_admit 7 = .ok (.iload_n 2, 1) := by decide +kernel
theorem dX1_admit_8 : decode cX1_admit 8 = .ok (.invokestatic 98, 3) := by decide +kernel
theorem dX1_admit_11 : decode cX1_admit 11 = .ok (.ifCond .eq 10, 3) := by decide +kernel
theorem dX1_admit_14 : decode cX1_admit 14 = .ok (.iload_n 3, 1) := by decide +kernel
theorem dX1_admit_15 : decode cX1_admit 15 = .ok (.invokestatic 98, 3) := by decide +kernel
theorem dX1_admit_18 : decode cX1_admit 18 = .ok (.ifCond .ne 5, 3) := by decide +kernel
theorem dX1_admit_21 : decode cX1_admit 21 = .ok (.iconst (-1), 1) := by decide +kernel
theorem dX1_admit_22 : decode cX1_admit 22 = .ok (.ireturn, 1) := by decide +kernel
theorem dX1_admit_23 : decode cX1_admit 23 = .ok (.iload 4, 2) := by decide +kernel
theorem dX1_admit_25 : decode cX1_admit 25 = .ok (.invokestatic 101, 3) := by decide +kernel
theorem dX1_admit_28 : decode cX1_admit 28 = .ok (.ifCond .eq 10, 3) := by decide +kernel
theorem dX1_admit_31 : decode cX1_admit 31 = .ok (.aload_n 0, 1) := by decide +kernel
theorem dX1_admit_32 : decode cX1_admit 32 = .ok (.invokevirtual 104, 3) := by decide +kernel
theorem dX1_admit_35 : decode cX1_admit 35 = .ok (.ifCond .eq 5, 3) := by decide +kernel
theorem dX1_admit_38 : decode cX1_admit 38 = .ok (.iconst (-1), 1) := by decide +kernel
theorem dX1_admit_39 : decode cX1_admit 39 = .ok (.ireturn, 1) := by decide +kernel
theorem dX1_admit_40 : decode cX1_admit 40 = .ok (.aload_n 0, 1) := by decide +kernel
theorem dX1_admit_41 : decode cX1_admit 41 = .ok (.getfield 49, 3) := by decide +kernel
theorem dX1_admit_44 : decode cX1_admit 44 = .ok (.istore 5, 2) := by decide +kernel
theorem dX1_admit_46 : decode cX1_admit 46 = .ok (.aload_n 0, 1) := by decide +kernel
theorem dX1_admit_47 : decode cX1_admit 47 = .ok (.iload 5, 2) := by decide +kernel
theorem dX1_admit_49 : decode cX1_admit 49 = .ok (.iconst 1, 1) := by decide +kernel
theorem dX1_admit_50 : decode cX1_admit 50 = .ok (.iadd, 1) := by decide +kernel
theorem dX1_admit_51 : decode cX1_admit 51 = .ok (.putfield 49, 3) := by decide +kernel
theorem dX1_admit_54 : decode cX1_admit 54 = .ok (.aload_n 0, 1) := by decide +kernel
theorem dX1_admit_55 : decode cX1_admit 55 = .ok (.getfield 15, 3) := by decide +kernel
theorem dX1_admit_58 : decode cX1_admit 58 = .ok (.iload 5, 2) := by decide +kernel
theorem dX1_admit_60 : decode cX1_admit 60 = .ok (.iload_n 1, 1) := by decide +kernel
theorem dX1_admit_61 : decode cX1_admit 61 = .ok (.iastore, 1) := by decide +kernel
theorem dX1_admit_62 : decode cX1_admit 62 = .ok (.aload_n 0, 1) := by decide +kernel
theorem dX1_admit_63 : decode cX1_admit 63 = .ok (.getfield 18, 3) := by decide +kernel
theorem dX1_admit_66 : decode cX1_admit 66 = .ok (.iload 5, 2) := by decide +kernel
theorem dX1_admit_68 : decode cX1_admit 68 = .ok (.iload_n 2, 1) := by decide +kernel
theorem dX1_admit_69 : decode cX1_admit 69 = .ok (.iastore, 1) := by decide +kernel
theorem dX1_admit_70 : decode cX1_admit 70 = .ok (.aload_n 0, 1) := by decide +kernel
theorem dX1_admit_71 : decode cX1_admit 71 = .ok (.getfield 21, 3) := by decide +kernel
theorem dX1_admit_74 : decode cX1_admit 74 = .ok (.iload 5, 2) := by decide +kernel
theorem dX1_admit_76 : decode cX1_admit 76 = .ok (.iload_n 3, 1) := by decide +kernel
theorem dX1_admit_77 : decode cX1_admit 77 = .ok (.iastore, 1) := by decide +kernel
theorem dX1_admit_78 : decode cX1_admit 78 = .ok (.aload_n 0, 1) := by decide +kernel
theorem dX1_admit_79 : decode cX1_admit 79 = .ok (.getfield 24, 3) := by decide +kernel
theorem dX1_admit_82 : decode cX1_admit 82 = .ok (.iload 5, 2) := by decide +kernel
theorem dX1_admit_84 : decode cX1_admit 84 = .ok (.iload 4, 2) := by decide +kernel
theorem dX1_admit_86 : decode cX1_admit 86 = .ok (.iastore, 1) := by decide +kernel
theorem dX1_admit_87 : decode cX1_admit 87 = .ok (.aload_n 0, 1) := by decide +kernel
theorem dX1_admit_88 : decode cX1_admit 88 = .ok (.getfield 27, 3) := by decide +kernel
theorem dX1_admit_91 : decode cX1_admit 91 = .ok (.iload 5, 2) := by decide +kernel
theorem dX1_admit_93 : decode cX1_admit 93 = .ok (.iload_n 2, 1) := by decide +kernel
theorem dX1_admit_94 : decode cX1_admit 94 = .ok (.iload_n 3, 1) := by decide +kernel
theorem dX1_admit_95 : decode cX1_admit 95 = .ok (.if_icmp .ne 7, 3) := by decide +kernel
theorem dX1_admit_98 : decode cX1_admit 98 = .ok (.iconst 2, 1) := by decide +kernel
theorem dX1_admit_99 : decode cX1_admit 99 = .ok (.goto 4, 3) := by decide +kernel
theorem dX1_admit_102 : decode cX1_admit 102 = .ok (.iconst 0, 1) := by decide +kernel
theorem dX1_admit_103 : decode cX1_admit 103 = .ok (.iastore, 1) := by decide +kernel
theorem dX1_admit_104 : decode cX1_admit 104 = .ok (.aload_n 0, 1) := by decide +kernel
theorem dX1_admit_105 : decode cX1_admit 105 = .ok (.getfield 30, 3) := by decide +kernel
theorem dX1_admit_108 : decode cX1_admit 108 = .ok (.iload 5, 2) := by decide +kernel
theorem dX1_admit_110 : decode cX1_admit 110 = .ok (.iconst 0, 1) := by decide +kernel
theorem dX1_admit_111 : decode cX1_admit 111 = .ok (.iastore, 1) := by decide +kernel
theorem dX1_admit_112 : decode cX1_admit 112 = .ok (.aload_n 0, 1) := by decide +kernel
theorem dX1_admit_113 : decode cX1_admit 113 = .ok (.getfield 33, 3) := by decide +kernel
theorem dX1_admit_116 : decode cX1_admit 116 = .ok (.iload 5, 2) := by decide +kernel
theorem dX1_admit_118 : decode cX1_admit 118 = .ok (.iconst 0, 1) := by decide +kernel
theorem dX1_admit_119 : decode cX1_admit 119 = .ok (.iastore, 1) := by decide +kernel
theorem dX1_admit_120 : decode cX1_admit 120 = .ok (.aload_n 0, 1) := by decide +kernel
theorem dX1_admit_121 : decode cX1_admit 121 = .ok (.getfield 36, 3) := by decide +kernel
theorem dX1_admit_124 : decode cX1_admit 124 = .ok (.iload 5, 2) := by decide +kernel
theorem dX1_admit_126 : decode cX1_admit 126 = .ok (.iconst 0, 1) := by decide +kernel
theorem dX1_admit_127 : decode cX1_admit 127 = .ok (.iastore, 1) := by decide +kernel
theorem dX1_admit_128 : decode cX1_admit 128 = .ok (.iload 5, 2) := by decide +kernel
theorem dX1_admit_130 : decode cX1_admit 130 = .ok (.ireturn, 1) := by decide +kernel
theorem dX1_dismiss_0 : decode cX1_dismiss 0 = .ok (.aload_n 0, 1) := by decide +kernel
theorem dX1_dismiss_1 : decode cX1_dismiss 1 = .ok (.iload_n 1, 1) := by decide +kernel
theorem dX1_dismiss_2 : decode cX1_dismiss 2 = .ok (.invokevirtual 88, 3) := by decide +kernel
theorem dX1_dismiss_5 : decode cX1_dismiss 5 = .ok (.ifCond .ne 5, 3) := by decide +kernel
theorem dX1_dismiss_8 : decode cX1_dismiss 8 = .ok (.iconst (-1), 1) := by decide +kernel
theorem dX1_dismiss_9 : decode cX1_dismiss 9 = .ok (.ireturn, 1) := by decide +kernel
theorem dX1_dismiss_10 : decode cX1_dismiss 10 = .ok (.aload_n 0, 1) := by decide +kernel
theorem dX1_dismiss_11 : decode cX1_dismiss 11 = .ok (.getfield 30, 3) := by decide +kernel
theorem dX1_dismiss_14 : decode cX1_dismiss 14 = .ok (.iload_n 1, 1) := by decide +kernel
theorem dX1_dismiss_15 : decode cX1_dismiss 15 = .ok (.iaload, 1) := by decide +kernel
theorem dX1_dismiss_16 : decode cX1_dismiss 16 = .ok (.istore_n 2, 1) := by decide +kernel
theorem dX1_dismiss_17 : decode cX1_dismiss 17 = .ok (.iload_n 1, 1) := by decide +kernel
theorem dX1_dismiss_18 : decode cX1_dismiss 18 = .ok (.iconst 1, 1) := by decide +kernel
theorem dX1_dismiss_19 : decode cX1_dismiss 19 = .ok (.iadd, 1) := by decide +kernel
theorem dX1_dismiss_20 : decode cX1_dismiss 20 = .ok (.istore_n 3, 1) := by decide +kernel
theorem dX1_dismiss_21 : decode cX1_dismiss 21 = .ok (.iload_n 3, 1) := by decide +kernel
theorem dX1_dismiss_22 : decode cX1_dismiss 22 = .ok (.aload_n 0, 1) := by decide +kernel
theorem dX1_dismiss_23 : decode cX1_dismiss 23 = .ok (.getfield 49, 3) := by decide +kernel
theorem dX1_dismiss_26 : decode cX1_dismiss 26 = .ok (.if_icmp .ge 17, 3) := by decide +kernel
theorem dX1_dismiss_29 : decode cX1_dismiss 29 = .ok (.aload_n 0, 1) := by decide +kernel
theorem dX1_dismiss_30 : decode cX1_dismiss 30 = .ok (.iload_n 3, 1) := by decide +kernel
theorem dX1_dismiss_31 : decode cX1_dismiss 31 = .ok (.iload_n 3, 1) := by decide +kernel
theorem dX1_dismiss_32 : decode cX1_dismiss 32 = .ok (.iconst 1, 1) := by decide +kernel
theorem dX1_dismiss_33 : decode cX1_dismiss 33 = .ok (.isub, 1) := by decide +kernel
theorem dX1_dismiss_34 : decode cX1_dismiss 34 = .ok (.invokevirtual 108, 3) := by decide +kernel
theorem dX1_dismiss_37 : decode cX1_dismiss 37 = .ok (.iinc 3 1, 3) := by decide +kernel
theorem dX1_dismiss_40 : decode cX1_dismiss 40 = .ok (.goto (-19), 3) := by decide +kernel
theorem dX1_dismiss_43 : decode cX1_dismiss 43 = .ok (.aload_n 0, 1) := by decide +kernel
theorem dX1_dismiss_44 : decode cX1_dismiss 44 = .ok (.dup, 1) := by decide +kernel
theorem dX1_dismiss_45 : decode cX1_dismiss 45 = .ok (.getfield 49, 3) := by decide +kernel
theorem dX1_dismiss_48 : decode cX1_dismiss 48 = .ok (.iconst 1, 1) := by decide +kernel
theorem dX1_dismiss_49 : decode cX1_dismiss 49 = .ok (.isub, 1) := by decide +kernel
theorem dX1_dismiss_50 : decode cX1_dismiss 50 = .ok (.putfield 49, 3) := by decide +kernel
theorem dX1_dismiss_53 : decode cX1_dismiss 53 = .ok (.iload_n 2, 1) := by decide +kernel
theorem dX1_dismiss_54 : decode cX1_dismiss 54 = .ok (.ireturn, 1) := by decide +kernel
theorem dX1_moveGuest_0 : decode cX1_moveGuest 0 = .ok (.aload_n 0, 1) := by decide +kernel
theorem dX1_moveGuest_1 : decode cX1_moveGuest 1 = .ok (.iload_n 1, 1) := by decide +kernel
theorem dX1_moveGuest_2 : decode cX1_moveGuest 2 = .ok (.invokevirtual 88, 3) := by decide +kernel
theorem dX1_moveGuest_5 : decode cX1_moveGuest 5 = .ok (.ifCond .eq 11, 3) := by decide +kernel
theorem dX1_moveGuest_8 : decode cX1_moveGuest 8 = .ok (.aload_n 0, 1) := by decide +kernel
theorem dX1_moveGuest_9 : decode cX1_moveGuest 9 = .ok (.iload_n 2, 1) := by decide +kernel
theorem dX1_moveGuest_10 : decode cX1_moveGuest 10 = .ok (.invokevirtual 88, 3) := by decide +kernel
theorem dX1_moveGuest_13 : decode cX1_moveGuest 13 = .ok (.ifCond .ne 4, 3) := by decide +kernel
theorem dX1_moveGuest_16 : decode cX1_moveGuest 16 = .ok (.return_, 1) := by decide +kernel
theorem dX1_moveGuest_17 : decode cX1_moveGuest 17 = .ok (.aload_n 0, 1) := by decide +kernel
theorem dX1_moveGuest_18 : decode cX1_moveGuest 18 = .ok (.getfield 15, 3) := by decide +kernel
theorem dX1_moveGuest_21 : decode cX1_moveGuest 21 = .ok (.iload_n 2, 1) := by decide +kernel
theorem dX1_moveGuest_22 : decode cX1_moveGuest 22 = .ok (.aload_n 0, 1) := by decide +kernel
theorem dX1_moveGuest_23 : decode cX1_moveGuest 23 = .ok (.getfield 15, 3) := by decide +kernel
theorem dX1_moveGuest_26 : decode cX1_moveGuest 26 = .ok (.iload_n 1, 1) := by decide +kernel
theorem dX1_moveGuest_27 : decode cX1_moveGuest 27 = .ok (.iaload, 1) := by decide +kernel
theorem dX1_moveGuest_28 : decode cX1_moveGuest 28 = .ok (.iastore, 1) := by decide +kernel
theorem dX1_moveGuest_29 : decode cX1_moveGuest 29 = .ok (.aload_n 0, 1) := by decide +kernel
theorem dX1_moveGuest_30 : decode cX1_moveGuest 30 = .ok (.getfield 18, 3) := by decide +kernel
theorem dX1_moveGuest_33 : decode cX1_moveGuest 33 = .ok (.iload_n 2, 1) := by decide +kernel
theorem dX1_moveGuest_34 : decode cX1_moveGuest 34 = .ok (.aload_n 0, 1) := by decide +kernel
theorem dX1_moveGuest_35 : decode cX1_moveGuest 35 = .ok (.getfield 18, 3) := by decide +kernel
theorem dX1_moveGuest_38 : decode cX1_moveGuest 38 = .ok (.iload_n 1, 1) := by decide +kernel
theorem dX1_moveGuest_39 : decode cX1_moveGuest 39 = .ok (.iaload, 1) := by decide +kernel
theorem dX1_moveGuest_40 : decode cX1_moveGuest 40 = .ok (.iastore, 1) := by decide +kernel
theorem dX1_moveGuest_41 : decode cX1_moveGuest 41 = .ok (.aload_n 0, 1) := by decide +kernel
theorem dX1_moveGuest_42 : decode cX1_moveGuest 42 = .ok (.getfield 21, 3) := by decide +kernel
theorem dX1_moveGuest_45 : decode cX1_moveGuest 45 = .ok (.iload_n 2, 1) := by decide +kernel
theorem dX1_moveGuest_46 : decode cX1_moveGuest 46 = .ok (.aload_n 0, 1) := by decide +kernel
theorem dX1_moveGuest_47 : decode cX1_moveGuest 47 = .ok (.getfield 21, 3) := by decide +kernel
theorem dX1_moveGuest_50 : decode cX1_moveGuest 50 = .ok (.iload_n 1, 1) := by decide +kernel
theorem dX1_moveGuest_51 : decode cX1_moveGuest 51 = .ok (.iaload, 1) := by decide +kernel
theorem dX1_moveGuest_52 : decode cX1_moveGuest 52 = .ok (.iastore, 1) := by decide +kernel
theorem dX1_moveGuest_53 : decode cX1_moveGuest 53 = .ok (.aload_n 0, 1) := by decide +kernel
theorem dX1_moveGuest_54 : decode cX1_moveGuest 54 = .ok (.getfield 24, 3) := by decide +kernel
theorem dX1_moveGuest_57 : decode cX1_moveGuest 57 = .ok (.iload_n 2, 1) := by decide +kernel
theorem dX1_moveGuest_58 : decode cX1_moveGuest 58 = .ok (.aload_n 0, 1) := by decide +kernel
theorem dX1_moveGuest_59 : decode cX1_moveGuest 59 = .ok (.getfield 24, 3) := by decide +kernel
theorem dX1_moveGuest_62 : decode cX1_moveGuest 62 = .ok (.iload_n 1, 1) := by decide +kernel
theorem dX1_moveGuest_63 : decode cX1_moveGuest 63 = .ok (.iaload, 1) := by decide +kernel
theorem dX1_moveGuest_64 : decode cX1_moveGuest 64 = .ok (.iastore, 1) := by decide +kernel
theorem dX1_moveGuest_65 : decode cX1_moveGuest 65 = .ok (.aload_n 0, 1) := by decide +kernel
theorem dX1_moveGuest_66 : decode cX1_moveGuest 66 = .ok (.getfield 27, 3) := by decide +kernel
theorem dX1_moveGuest_69 : decode cX1_moveGuest 69 = .ok (.iload_n 2, 1) := by decide +kernel
theorem dX1_moveGuest_70 : decode cX1_moveGuest 70 = .ok (.aload_n 0, 1) := by decide +kernel
theorem dX1_moveGuest_71 : decode cX1_moveGuest 71 = .ok (.getfield 27, 3) := by decide +kernel
theorem dX1_moveGuest_74 : decode cX1_moveGuest 74 = .ok (.iload_n 1, 1) := by decide +kernel
theorem dX1_moveGuest_75 : decode cX1_moveGuest 75 = .ok (.iaload, 1) := by decide +kernel
theorem dX1_moveGuest_76 : decode cX1_moveGuest 76 = .ok (.iastore, 1) := by decide +kernel
theorem dX1_moveGuest_77 : decode cX1_moveGuest 77 = .ok (.aload_n 0, 1) := by decide +kernel
theorem dX1_moveGuest_78 : decode cX1_moveGuest 78 = .ok (.getfield 30, 3) := by decide +kernel
theorem dX1_moveGuest_81 : decode cX1_moveGuest 81 = .ok (.iload_n 2, 1) := by decide +kernel
theorem dX1_moveGuest_82 : decode cX1_moveGuest 82 = .ok (.aload_n 0, 1) := by decide +kernel
theorem dX1_moveGuest_83 : decode cX1_moveGuest 83 = .ok (.getfield 30, 3) := by decide +kernel
theorem dX1_moveGuest_86 : decode cX1_moveGuest 86 = .ok (.iload_n 1, 1) := by decide +kernel
theorem dX1_moveGuest_87 : decode cX1_moveGuest 87 = .ok (.iaload, 1) := by decide +kernel
theorem dX1_moveGuest_88 : decode cX1_moveGuest 88 = .ok (.iastore, 1) := by decide +kernel
theorem dX1_moveGuest_89 : decode cX1_moveGuest 89 = .ok (.aload_n 0, 1) := by decide +kernel
theorem dX1_moveGuest_90 : decode cX1_moveGuest 90 = .ok (.getfield 33, 3) := by decide +kernel
theorem dX1_moveGuest_93 : decode cX1_moveGuest 93 = .ok (.iload_n 2, 1) := by decide +kernel
theorem dX1_moveGuest_94 : decode cX1_moveGuest 94 = .ok (.aload_n 0, 1) := by decide +kernel
theorem dX1_moveGuest_95 : decode cX1_moveGuest 95 = .ok (.getfield 33, 3) := by decide +kernel
theorem dX1_moveGuest_98 : decode cX1_moveGuest 98 = .ok (.iload_n 1, 1) := by decide +kernel
theorem dX1_moveGuest_99 : decode cX1_moveGuest 99 = .ok (.iaload, 1) := by decide +kernel
theorem dX1_moveGuest_100 : decode cX1_moveGuest 100 = .ok (.iastore, 1) := by decide +kernel
theorem dX1_moveGuest_101 : decode cX1_moveGuest 101 = .ok (.aload_n 0, 1) := by decide +kernel
theorem dX1_moveGuest_102 : decode cX1_moveGuest 102 = .ok (.getfield 36, 3) := by decide +kernel
theorem dX1_moveGuest_105 : decode cX1_moveGuest 105 = .ok (.iload_n 2, 1) := by decide +kernel
theorem dX1_moveGuest_106 : decode cX1_moveGuest 106 = .ok (.aload_n 0, 1) := by decide +kernel
theorem dX1_moveGuest_107 : decode cX1_moveGuest 107 = .ok (.getfield 36, 3) := by decide +kernel
theorem dX1_moveGuest_110 : decode cX1_moveGuest 110 = .ok (.iload_n 1, 1) := by decide +kernel
theorem dX1_moveGuest_111 : decode cX1_moveGuest 111 = .ok (.iaload, 1) := by decide +kernel
theorem dX1_moveGuest_112 : decode cX1_moveGuest 112 = .ok (.iastore, 1) := by decide +kernel
theorem dX1_moveGuest_113 : decode cX1_moveGuest 113 = .ok (.return_, 1) := by decide +kernel
theorem dX1_letAllRest_0 : decode cX1_letAllRest 0 = .ok (.aload_n 0, 1) := by decide +kernel
theorem dX1_letAllRest_1 : decode cX1_letAllRest 1 = .ok (.dup, 1) := by decide +kernel
theorem dX1_letAllRest_2 : decode cX1_letAllRest 2 = .ok (.getfield 56, 3) := by decide +kernel
theorem dX1_letAllRest_5 : decode cX1_letAllRest 5 = .ok (.bipush 30, 2) := by decide +kernel
theorem dX1_letAllRest_7 : decode cX1_letAllRest 7 = .ok (.iadd, 1) := by decide +kernel
theorem dX1_letAllRest_8 : decode cX1_letAllRest 8 = .ok (.putfield 56, 3) := by decide +kernel
theorem dX1_letAllRest_11 : decode cX1_letAllRest 11 = .ok (.iconst 0, 1) := by decide +kernel
theorem dX1_letAllRest_12 : decode cX1_letAllRest 12 = .ok (.istore_n 1, 1) := by decide +kernel
theorem dX1_letAllRest_13 : decode cX1_letAllRest 13 = .ok (.iload_n 1, 1) := by decide +kernel
theorem dX1_letAllRest_14 : decode cX1_letAllRest 14 = .ok (.aload_n 0, 1) := by decide +kernel
theorem dX1_letAllRest_15 : decode cX1_letAllRest 15 = .ok (.getfield 49, 3) := by decide +kernel
theorem dX1_letAllRest_18 : decode cX1_letAllRest 18 = .ok (.if_icmp .ge 28, 3) := by decide +kernel
theorem dX1_letAllRest_21 : decode cX1_letAllRest 21 = .ok (.aload_n 0, 1) := by decide +kernel
theorem dX1_letAllRest_22 : decode cX1_letAllRest 22 = .ok (.getfield 30, 3) := by decide +kernel
theorem dX1_letAllRest_25 : decode cX1_letAllRest 25 = .ok (.iload_n 1, 1) := by decide +kernel
theorem dX1_letAllRest_26 : decode cX1_letAllRest 26 = .ok (.iaload, 1) := by decide +kernel
theorem dX1_letAllRest_27 : decode cX1_letAllRest 27 = .ok (.ifCond .le 13, 3) := by decide +kernel
theorem dX1_letAllRest_30 : decode cX1_letAllRest 30 = .ok (.aload_n 0, 1) := by decide +kernel
theorem dX1_letAllRest_31 : decode cX1_letAllRest 31 = .ok (.getfield 30, 3) := by decide +kernel
theorem dX1_letAllRest_34 : decode cX1_letAllRest 34 = .ok (.iload_n 1, 1) := by decide +kernel
theorem dX1_letAllRest_35 : decode cX1_letAllRest 35 = .ok (.dup2, 1) := by decide +kernel
theorem dX1_letAllRest_36 : decode cX1_letAllRest 36 = .ok (.iaload, 1) := by decide +kernel
theorem dX1_letAllRest_37 : decode cX1_letAllRest 37 = .ok (.iconst 1, 1) := by decide +kernel
theorem dX1_letAllRest_38 : decode cX1_letAllRest 38 = .ok (.isub, 1) := by decide +kernel
theorem dX1_letAllRest_39 : decode cX1_letAllRest 39 = .ok (.iastore, 1) := by decide +kernel
theorem dX1_letAllRest_40 : decode cX1_letAllRest 40 = .ok (.iinc 1 1, 3) := by decide +kernel
theorem dX1_letAllRest_43 : decode cX1_letAllRest 43 = .ok (.goto (-30), 3) := by decide +kernel
theorem dX1_letAllRest_46 : decode cX1_letAllRest 46 = .ok (.return_, 1) := by decide +kernel
theorem dX1_change_0 : decode cX1_change 0 = .ok (.iload_n 1, 1) := by decide +kernel
theorem dX1_change_1 : decode cX1_change 1 = .ok (.iload_n 2, 1) := by decide +kernel
theorem dX1_change_2 : decode cX1_change 2 = .ok (.invokestatic 112, 3) := by decide +kernel
theorem dX1_change_5 : decode cX1_change 5 = .ok (.ifCond .ne 5, 3) := by decide +kernel
theorem dX1_change_8 : decode cX1_change 8 = .ok (.iconst (-1), 1) := by decide +kernel
theorem dX1_change_9 : decode cX1_change 9 = .ok (.ireturn, 1) := by decide +kernel
theorem dX1_change_10 : decode cX1_change 10 = .ok (.aload_n 0, 1) := by decide +kernel
theorem dX1_change_11 : decode cX1_change 11 = .ok (.getfield 9, 3) := by decide +kernel
theorem dX1_change_14 : decode cX1_change 14 = .ok (.iload_n 1, 1) := by decide +kernel
theorem dX1_change_15 : decode cX1_change 15 = .ok (.iaload, 1) := by decide +kernel
theorem dX1_change_16 : decode cX1_change 16 = .ok (.istore_n 3, 1) := by decide +kernel
theorem dX1_change_17 : decode cX1_change 17 = .ok (.aload_n 0, 1) := by decide +kernel
theorem dX1_change_18 : decode cX1_change 18 = .ok (.getfield 9, 3) := by decide +kernel
theorem dX1_change_21 : decode cX1_change 21 = .ok (.iload_n 1, 1) := by decide +kernel
theorem dX1_change_22 : decode cX1_change 22 = .ok (.iload_n 2, 1) := by decide +kernel
theorem dX1_change_23 : decode cX1_change 23 = .ok (.iastore, 1) := by decide +kernel
theorem dX1_change_24 : decode cX1_change 24 = .ok (.iload_n 3, 1) := by decide +kernel
theorem dX1_change_25 : decode cX1_change 25 = .ok (.ireturn, 1) := by decide +kernel
theorem dX1_reasonOf_0 : decode cX1_reasonOf 0 = .ok (.aload_n 0, 1) := by decide +kernel
theorem dX1_reasonOf_1 : decode cX1_reasonOf 1 = .ok (.iload_n 1, 1) := by decide +kernel
theorem dX1_reasonOf_2 : decode cX1_reasonOf 2 = .ok (.invokevirtual 88, 3) := by decide +kernel
theorem dX1_reasonOf_5 : decode cX1_reasonOf 5 = .ok (.ifCond .ne 5, 3) := by decide +kernel
theorem dX1_reasonOf_8 : decode cX1_reasonOf 8 = .ok (.iconst (-1), 1) := by decide +kernel
theorem dX1_reasonOf_9 : decode cX1_reasonOf 9 = .ok (.ireturn, 1) := by decide +kernel
theorem dX1_reasonOf_10 : decode cX1_reasonOf 10 = .ok (.aload_n 0, 1) := by decide +kernel
theorem dX1_reasonOf_11 : decode cX1_reasonOf 11 = .ok (.getfield 27, 3) := by decide +kernel
theorem dX1_reasonOf_14 : decode cX1_reasonOf 14 = .ok (.iload_n 1, 1) := by decide +kernel
theorem dX1_reasonOf_15 : decode cX1_reasonOf 15 = .ok (.iaload, 1) := by decide +kernel
theorem dX1_reasonOf_16 : decode cX1_reasonOf 16 = .ok (.iconst 2, 1) := by decide +kernel
theorem dX1_reasonOf_17 : decode cX1_reasonOf 17 = .ok (.if_icmp .ne 5, 3) := by decide +kernel
theorem dX1_reasonOf_20 : decode cX1_reasonOf 20 = .ok (.iconst 1, 1) := by decide +kernel
theorem dX1_reasonOf_21 : decode cX1_reasonOf 21 = .ok (.ireturn, 1) := by decide +kernel
theorem dX1_reasonOf_22 : decode cX1_reasonOf 22 = .ok (.aload_n 0, 1) := by decide +kernel
theorem dX1_reasonOf_23 : decode cX1_reasonOf 23 = .ok (.getfield 30, 3) := by decide +kernel
theorem dX1_reasonOf_26 : decode cX1_reasonOf 26 = .ok (.iload_n 1, 1) := by decide +kernel
theorem dX1_reasonOf_27 : decode cX1_reasonOf 27 = .ok (.iaload, 1) := by decide +kernel
theorem dX1_reasonOf_28 : decode cX1_reasonOf 28 = .ok (.aload_n 0, 1) := by decide +kernel
theorem dX1_reasonOf_29 : decode cX1_reasonOf 29 = .ok (.getfield 9, 3) := by decide +kernel
theorem dX1_reasonOf_32 : decode cX1_reasonOf 32 = .ok (.iconst 1, 1) := by decide +kernel
theorem dX1_reasonOf_33 : decode cX1_reasonOf 33 = .ok (.iaload, 1) := by decide +kernel
theorem dX1_reasonOf_34 : decode cX1_reasonOf 34 = .ok (.if_icmp .lt 5, 3) := by decide +kernel
theorem dX1_reasonOf_37 : decode cX1_reasonOf 37 = .ok (.iconst 2, 1) := by decide +kernel
theorem dX1_reasonOf_38 : decode cX1_reasonOf 38 = .ok (.ireturn, 1) := by decide +kernel
theorem dX1_reasonOf_39 : decode cX1_reasonOf 39 = .ok (.aload_n 0, 1) := by decide +kernel
theorem dX1_reasonOf_40 : decode cX1_reasonOf 40 = .ok (.getfield 53, 3) := by decide +kernel
theorem dX1_reasonOf_43 : decode cX1_reasonOf 43 = .ok (.aload_n 0, 1) := by decide +kernel
theorem dX1_reasonOf_44 : decode cX1_reasonOf 44 = .ok (.getfield 15, 3) := by decide +kernel
theorem dX1_reasonOf_47 : decode cX1_reasonOf 47 = .ok (.iload_n 1, 1) := by decide +kernel
theorem dX1_reasonOf_48 : decode cX1_reasonOf 48 = .ok (.iaload, 1) := by decide +kernel
theorem dX1_reasonOf_49 : decode cX1_reasonOf 49 = .ok (.if_icmp .ne 7, 3) := by decide +kernel
theorem dX1_reasonOf_52 : decode cX1_reasonOf 52 = .ok (.iconst 3, 1) := by decide +kernel
theorem dX1_reasonOf_53 : decode cX1_reasonOf 53 = .ok (.goto 4, 3) := by decide +kernel
theorem dX1_reasonOf_56 : decode cX1_reasonOf 56 = .ok (.iconst 0, 1) := by decide +kernel
theorem dX1_reasonOf_57 : decode cX1_reasonOf 57 = .ok (.ireturn, 1) := by decide +kernel
theorem dX1_goIfWilling_0 : decode cX1_goIfWilling 0 = .ok (.aload_n 0, 1) := by decide +kernel
theorem dX1_goIfWilling_1 : decode cX1_goIfWilling 1 = .ok (.iload_n 1, 1) := by decide +kernel
theorem dX1_goIfWilling_2 : decode cX1_goIfWilling 2 = .ok (.invokevirtual 116, 3) := by decide +kernel
theorem dX1_goIfWilling_5 : decode cX1_goIfWilling 5 = .ok (.ifCond .eq 5, 3) := by decide +kernel
theorem dX1_goIfWilling_8 : decode cX1_goIfWilling 8 = .ok (.iconst 0, 1) := by decide +kernel
theorem dX1_goIfWilling_9 : decode cX1_goIfWilling 9 = .ok (.ireturn, 1) := by decide +kernel
theorem dX1_goIfWilling_10 : decode cX1_goIfWilling 10 = .ok (.aload_n 0, 1) := by decide +kernel
theorem dX1_goIfWilling_11 : decode cX1_goIfWilling 11 = .ok (.iload_n 1, 1) := by decide +kernel
theorem dX1_goIfWilling_12 : decode cX1_goIfWilling 12 = .ok (.invokevirtual 119, 3) := by decide +kernel
theorem dX1_goIfWilling_15 : decode cX1_goIfWilling 15 = .ok (.iconst 1, 1) := by decide +kernel
theorem dX1_goIfWilling_16 : decode cX1_goIfWilling 16 = .ok (.ireturn, 1) := by decide +kernel
theorem dX1_pressBy_0 : decode cX1_pressBy 0 = .ok (.aload_n 0, 1) := by decide +kernel
theorem dX1_pressBy_1 : decode cX1_pressBy 1 = .ok (.iload_n 1, 1) := by decide +kernel
theorem dX1_pressBy_2 : decode cX1_pressBy 2 = .ok (.invokevirtual 116, 3) := by decide +kernel
theorem dX1_pressBy_5 : decode cX1_pressBy 5 = .ok (.istore_n 2, 1) := by decide +kernel
theorem dX1_pressBy_6 : decode cX1_pressBy 6 = .ok (.iload_n 2, 1) := by decide +kernel
theorem dX1_pressBy_7 : decode cX1_pressBy 7 = .ok (.ifCond .ne 11, 3) := by decide +kernel
theorem dX1_pressBy_10 : decode cX1_pressBy 10 = .ok (.aload_n 0, 1) := by decide +kernel
theorem dX1_pressBy_11 : decode cX1_pressBy 11 = .ok (.iload_n 1, 1) := by decide +kernel
theorem dX1_pressBy_12 : decode cX1_pressBy 12 = .ok (.invokevirtual 119, 3) := by decide +kernel
theorem dX1_pressBy_15 : decode cX1_pressBy 15 = .ok (.goto 18, 3) := by decide +kernel
theorem dX1_pressBy_18 : decode cX1_pressBy 18 = .ok (.iload_n 2, 1) := by decide +kernel
theorem dX1_pressBy_19 : decode cX1_pressBy 19 = .ok (.iconst (-1), 1) := by decide +kernel
theorem dX1_pressBy_20 : decode cX1_pressBy 20 = .ok (.if_icmp .eq 13, 3) := by decide +kernel
theorem dX1_pressBy_23 : decode cX1_pressBy 23 = .ok (.aload_n 0, 1) := by decide +kernel
theorem dX1_pressBy_24 : decode cX1_pressBy 24 = .ok (.dup, 1) := by decide +kernel
theorem dX1_pressBy_25 : decode cX1_pressBy 25 = .ok (.getfield 62, 3) := by decide +kernel
theorem dX1_pressBy_28 : decode cX1_pressBy 28 = .ok (.iconst 1, 1) := by decide +kernel
theorem dX1_pressBy_29 : decode cX1_pressBy 29 = .ok (.iadd, 1) := by decide +kernel
theorem dX1_pressBy_30 : decode cX1_pressBy 30 = .ok (.putfield 62, 3) := by decide +kernel
theorem dX1_pressBy_33 : decode cX1_pressBy 33 = .ok (.iload_n 2, 1) := by decide +kernel
theorem dX1_pressBy_34 : decode cX1_pressBy 34 = .ok (.ireturn, 1) := by decide +kernel
theorem dX1_standingBehind_0 : decode cX1_standingBehind 0 = .ok (.aload_n 0, 1) := by decide +kernel
theorem dX1_standingBehind_1 : decode cX1_standingBehind 1 = .ok (.iload_n 1, 1) := by decide +kernel
theorem dX1_standingBehind_2 : decode cX1_standingBehind 2 = .ok (.invokevirtual 88, 3) := by decide +kernel
theorem dX1_standingBehind_5 : decode cX1_standingBehind 5 = .ok (.ifCond .eq 16, 3) := by decide +kernel
theorem dX1_standingBehind_8 : decode cX1_standingBehind 8 = .ok (.aload_n 0, 1) := by decide +kernel
theorem dX1_standingBehind_9 : decode cX1_standingBehind 9 = .ok (.getfield 53, 3) := by decide +kernel
theorem dX1_standingBehind_12 : decode cX1_standingBehind 12 = .ok (.aload_n 0, 1) := by decide +kernel
theorem dX1_standingBehind_13 : decode cX1_standingBehind 13 = .ok (.getfield 15, 3) := by decide +kernel
theorem dX1_standingBehind_16 : decode cX1_standingBehind 16 = .ok (.iload_n 1, 1) := by decide +kernel
theorem dX1_standingBehind_17 : decode cX1_standingBehind 17 = .ok (.iaload, 1) := by decide +kernel
theorem dX1_standingBehind_18 : decode cX1_standingBehind 18 = .ok (.if_icmp .ne 5, 3) := by decide +kernel
theorem dX1_standingBehind_21 : decode cX1_standingBehind 21 = .ok (.iconst 0, 1) := by decide +kernel
theorem dX1_standingBehind_22 : decode cX1_standingBehind 22 = .ok (.ireturn, 1) := by decide +kernel
theorem dX1_standingBehind_23 : decode cX1_standingBehind 23 = .ok (.aload_n 0, 1) := by decide +kernel
theorem dX1_standingBehind_24 : decode cX1_standingBehind 24 = .ok (.iload_n 1, 1) := by decide +kernel
theorem dX1_standingBehind_25 : decode cX1_standingBehind 25 = .ok (.invokevirtual 119, 3) := by decide +kernel
theorem dX1_standingBehind_28 : decode cX1_standingBehind 28 = .ok (.aload_n 0, 1) := by decide +kernel
theorem dX1_standingBehind_29 : decode cX1_standingBehind 29 = .ok (.aload_n 0, 1) := by decide +kernel
theorem dX1_standingBehind_30 : decode cX1_standingBehind 30 = .ok (.getfield 53, 3) := by decide +kernel
theorem dX1_standingBehind_33 : decode cX1_standingBehind 33 = .ok (.iconst 0, 1) := by decide +kernel
theorem dX1_standingBehind_34 : decode cX1_standingBehind 34 = .ok (.invokevirtual 123, 3) := by decide +kernel
theorem dX1_standingBehind_37 : decode cX1_standingBehind 37 = .ok (.ireturn, 1) := by decide +kernel
theorem dX1_goFor_0 : decode cX1_goFor 0 = .ok (.aload_n 0, 1) := by decide +kernel
theorem dX1_goFor_1 : decode cX1_goFor 1 = .ok (.iload_n 1, 1) := by decide +kernel
theorem dX1_goFor_2 : decode cX1_goFor 2 = .ok (.invokevirtual 88, 3) := by decide +kernel
theorem dX1_goFor_5 : decode cX1_goFor 5 = .ok (.ifCond .ne 4, 3) := by decide +kernel
theorem dX1_goFor_8 : decode cX1_goFor 8 = .ok (.return_, 1) := by decide +kernel
theorem dX1_goFor_9 : decode cX1_goFor 9 = .ok (.aload_n 0, 1) := by decide +kernel
theorem dX1_goFor_10 : decode cX1_goFor 10 = .ok (.dup, 1) := by decide +kernel
theorem dX1_goFor_11 : decode cX1_goFor 11 = .ok (.getfield 59, 3) := by decide +kernel
theorem dX1_goFor_14 : decode cX1_goFor 14 = .ok (.iconst 1, 1) := by decide +kernel
theorem dX1_goFor_15 : decode cX1_goFor 15 = .ok (.iadd, 1) := by decide +kernel
theorem dX1_goFor_16 : decode cX1_goFor 16 = .ok (.putfield 59, 3) := by decide +kernel
theorem dX1_goFor_19 : decode cX1_goFor 19 = .ok (.aload_n 0, 1) := by decide +kernel
theorem dX1_goFor_20 : decode cX1_goFor 20 = .ok (.getfield 33, 3) := by decide +kernel
theorem dX1_goFor_23 : decode cX1_goFor 23 = .ok (.iload_n 1, 1) := by decide +kernel
theorem dX1_goFor_24 : decode cX1_goFor 24 = .ok (.dup2, 1) := by decide +kernel
theorem dX1_goFor_25 : decode cX1_goFor 25 = .ok (.iaload, 1) := by decide +kernel
theorem dX1_goFor_26 : decode cX1_goFor 26 = .ok (.iconst 1, 1) := by decide +kernel
theorem dX1_goFor_27 : decode cX1_goFor 27 = .ok (.iadd, 1) := by decide +kernel
theorem dX1_goFor_28 : decode cX1_goFor 28 = .ok (.iastore, 1) := by decide +kernel
theorem dX1_goFor_29 : decode cX1_goFor 29 = .ok (.aload_n 0, 1) := by decide +kernel
theorem dX1_goFor_30 : decode cX1_goFor 30 = .ok (.aload_n 0, 1) := by decide +kernel
theorem dX1_goFor_31 : decode cX1_goFor 31 = .ok (.getfield 15, 3) := by decide +kernel
theorem dX1_goFor_34 : decode cX1_goFor 34 = .ok (.iload_n 1, 1) := by decide +kernel
theorem dX1_goFor_35 : decode cX1_goFor 35 = .ok (.iaload, 1) := by decide +kernel
theorem dX1_goFor_36 : decode cX1_goFor 36 = .ok (.invokevirtual 127, 3) := by decide +kernel
theorem dX1_goFor_39 : decode cX1_goFor 39 = .ok (.aload_n 0, 1) := by decide +kernel
theorem dX1_goFor_40 : decode cX1_goFor 40 = .ok (.invokevirtual 130, 3) := by decide +kernel
theorem dX1_goFor_43 : decode cX1_goFor 43 = .ok (.aload_n 0, 1) := by decide +kernel
theorem dX1_goFor_44 : decode cX1_goFor 44 = .ok (.invokevirtual 133, 3) := by decide +kernel
theorem dX1_goFor_47 : decode cX1_goFor 47 = .ok (.return_, 1) := by decide +kernel
theorem dX1_travelTo_0 : decode cX1_travelTo 0 = .ok (.iload_n 1, 1) := by decide +kernel
theorem dX1_travelTo_1 : decode cX1_travelTo 1 = .ok (.aload_n 0, 1) := by decide +kernel
theorem dX1_travelTo_2 : decode cX1_travelTo 2 = .ok (.getfield 53, 3) := by decide +kernel
theorem dX1_travelTo_5 : decode cX1_travelTo 5 = .ok (.if_icmp .ge 7, 3) := by decide +kernel
theorem dX1_travelTo_8 : decode cX1_travelTo 8 = .ok (.iload_n 1, 1) := by decide +kernel
theorem dX1_travelTo_9 : decode cX1_travelTo 9 = .ok (.goto 7, 3) := by decide +kernel
theorem dX1_travelTo_12 : decode cX1_travelTo 12 = .ok (.aload_n 0, 1) := by decide +kernel
theorem dX1_travelTo_13 : decode cX1_travelTo 13 = .ok (.getfield 53, 3) := by decide +kernel
theorem dX1_travelTo_16 : decode cX1_travelTo 16 = .ok (.istore_n 2, 1) := by decide +kernel
theorem dX1_travelTo_17 : decode cX1_travelTo 17 = .ok (.iload_n 1, 1) := by decide +kernel
theorem dX1_travelTo_18 : decode cX1_travelTo 18 = .ok (.aload_n 0, 1) := by decide +kernel
theorem dX1_travelTo_19 : decode cX1_travelTo 19 = .ok (.getfield 53, 3) := by decide +kernel
theorem dX1_travelTo_22 : decode cX1_travelTo 22 = .ok (.if_icmp .ge 10, 3) := by decide +kernel
theorem dX1_travelTo_25 : decode cX1_travelTo 25 = .ok (.aload_n 0, 1) := by decide +kernel
theorem dX1_travelTo_26 : decode cX1_travelTo 26 = .ok (.getfield 53, 3) := by decide +kernel
theorem dX1_travelTo_29 : decode cX1_travelTo 29 = .ok (.goto 4, 3) := by decide +kernel
theorem dX1_travelTo_32 : decode cX1_travelTo 32 = .ok (.iload_n 1, 1) := by decide +kernel
theorem dX1_travelTo_33 : decode cX1_travelTo 33 = .ok (.istore_n 3, 1) := by decide +kernel
theorem dX1_travelTo_34 : decode cX1_travelTo 34 = .ok (.iload_n 3, 1) := by decide +kernel
theorem dX1_travelTo_35 : decode cX1_travelTo 35 = .ok (.iload_n 2, 1) := by decide +kernel
theorem dX1_travelTo_36 : decode cX1_travelTo 36 = .ok (.isub, 1) := by decide +kernel
theorem dX1_travelTo_37 : decode cX1_travelTo 37 = .ok (.istore 4, 2) := by decide +kernel
theorem dX1_travelTo_39 : decode cX1_travelTo 39 = .ok (.iconst 0, 1) := by decide +kernel
theorem dX1_travelTo_40 : decode cX1_travelTo 40 = .ok (.istore 5, 2) := by decide +kernel
theorem dX1_travelTo_42 : decode cX1_travelTo 42 = .ok (.iload 5, 2) := by decide +kernel
theorem dX1_travelTo_44 : decode cX1_travelTo 44 = .ok (.aload_n 0, 1) := by decide +kernel
theorem dX1_travelTo_45 : decode cX1_travelTo 45 = .ok (.getfield 49, 3) := by decide +kernel
theorem dX1_travelTo_48 : decode cX1_travelTo 48 = .ok (.if_icmp .ge 58, 3) := by decide +kernel
theorem dX1_travelTo_51 : decode cX1_travelTo 51 = .ok (.aload_n 0, 1) := by decide +kernel
theorem dX1_travelTo_52 : decode cX1_travelTo 52 = .ok (.iload 5, 2) := by decide +kernel
theorem dX1_travelTo_54 : decode cX1_travelTo 54 = .ok (.invokevirtual 136, 3) := by decide +kernel
theorem dX1_travelTo_57 : decode cX1_travelTo 57 = .ok (.istore 6, 2) := by decide +kernel
theorem dX1_travelTo_59 : decode cX1_travelTo 59 = .ok (.iload_n 2, 1) := by decide +kernel
theorem dX1_travelTo_60 : decode cX1_travelTo 60 = .ok (.iload 6, 2) := by decide +kernel
theorem dX1_travelTo_62 : decode cX1_travelTo 62 = .ok (.if_icmp .ge 15, 3) := by decide +kernel
theorem dX1_travelTo_65 : decode cX1_travelTo 65 = .ok (.iload 6, 2) := by decide +kernel
theorem dX1_travelTo_67 : decode cX1_travelTo 67 = .ok (.iload_n 3, 1) := by decide +kernel
theorem dX1_travelTo_68 : decode cX1_travelTo 68 = .ok (.if_icmp .ge 9, 3) := by decide +kernel
theorem dX1_travelTo_71 : decode cX1_travelTo 71 = .ok (.aload_n 0, 1) := by decide +kernel
theorem dX1_travelTo_72 : decode cX1_travelTo 72 = .ok (.iload 5, 2) := by decide +kernel
theorem dX1_travelTo_74 : decode cX1_travelTo 74 = .ok (.invokevirtual 139, 3) := by decide +kernel
theorem dX1_travelTo_77 : decode cX1_travelTo 77 = .ok (.aload_n 0, 1) := by decide +kernel
theorem dX1_travelTo_78 : decode cX1_travelTo 78 = .ok (.getfield 27, 3) := by decide +kernel
theorem dX1_travelTo_81 : decode cX1_travelTo 81 = .ok (.iload 5, 2) := by decide +kernel
theorem dX1_travelTo_83 : decode cX1_travelTo 83 = .ok (.iaload, 1) := by decide +kernel
theorem dX1_travelTo_84 : decode cX1_travelTo 84 = .ok (.iconst 1, 1) := by decide +kernel
theorem dX1_travelTo_85 : decode cX1_travelTo 85 = .ok (.if_icmp .ne 15, 3) := by decide +kernel
theorem dX1_travelTo_88 : decode cX1_travelTo 88 = .ok (.aload_n 0, 1) := by decide +kernel
theorem dX1_travelTo_89 : decode cX1_travelTo 89 = .ok (.getfield 36, 3) := by decide +kernel
theorem dX1_travelTo_92 : decode cX1_travelTo 92 = .ok (.iload 5, 2) := by decide +kernel
theorem dX1_travelTo_94 : decode cX1_travelTo 94 = .ok (.dup2, 1) := by decide +kernel
theorem dX1_travelTo_95 : decode cX1_travelTo 95 = .ok (.iaload, 1) := by decide +kernel
theorem dX1_travelTo_96 : decode cX1_travelTo 96 = .ok (.iload 4, 2) := by decide +kernel
theorem dX1_travelTo_98 : decode cX1_travelTo 98 = .ok (.iadd, 1) := by decide +kernel
theorem dX1_travelTo_99 : decode cX1_travelTo 99 = .ok (.iastore, 1) := by decide +kernel
theorem dX1_travelTo_100 : decode cX1_travelTo 100 = .ok (.iinc 5 1, 3) := by decide +kernel
theorem dX1_travelTo_103 : decode cX1_travelTo 103 = .ok (.goto (-61), 3) := by decide +kernel
theorem dX1_travelTo_106 : decode cX1_travelTo 106 = .ok (.aload_n 0, 1) := by decide +kernel
theorem dX1_travelTo_107 : decode cX1_travelTo 107 = .ok (.dup, 1) := by decide +kernel
theorem dX1_travelTo_108 : decode cX1_travelTo 108 = .ok (.getfield 56, 3) := by decide +kernel
theorem dX1_travelTo_111 : decode cX1_travelTo 111 = .ok (.iload 4, 2) := by decide +kernel
theorem dX1_travelTo_113 : decode cX1_travelTo 113 = .ok (.aload_n 0, 1) := by decide +kernel
theorem dX1_travelTo_114 : decode cX1_travelTo 114 = .ok (.getfield 9, 3) := by decide +kernel
theorem dX1_travelTo_117 : decode cX1_travelTo 117 = .ok (.iconst 2, 1) := by decide +kernel
theorem dX1_travelTo_118 : decode cX1_travelTo 118 = .ok (.iaload, 1) := by decide +kernel
theorem dX1_travelTo_119 : decode cX1_travelTo 119 = .ok (.imul, 1) := by decide +kernel
theorem dX1_travelTo_120 : decode cX1_travelTo 120 = .ok (.iconst 5, 1) := by decide +kernel
theorem dX1_travelTo_121 : decode cX1_travelTo 121 = .ok (.iadd, 1) := by decide +kernel
theorem dX1_travelTo_122 : decode cX1_travelTo 122 = .ok (.iadd, 1) := by decide +kernel
theorem dX1_travelTo_123 : decode cX1_travelTo 123 = .ok (.putfield 56, 3) := by decide +kernel
theorem dX1_travelTo_126 : decode cX1_travelTo 126 = .ok (.aload_n 0, 1) := by decide +kernel
theorem dX1_travelTo_127 : decode cX1_travelTo 127 = .ok (.dup, 1) := by decide +kernel
theorem dX1_travelTo_128 : decode cX1_travelTo 128 = .ok (.getfield 65, 3) := by decide +kernel
theorem dX1_travelTo_131 : decode cX1_travelTo 131 = .ok (.iload 4, 2) := by decide +kernel
theorem dX1_travelTo_133 : decode cX1_travelTo 133 = .ok (.iadd, 1) := by decide +kernel
theorem dX1_travelTo_134 : decode cX1_travelTo 134 = .ok (.putfield 65, 3) := by decide +kernel
theorem dX1_travelTo_137 : decode cX1_travelTo 137 = .ok (.aload_n 0, 1) := by decide +kernel
theorem dX1_travelTo_138 : decode cX1_travelTo 138 = .ok (.iload_n 1, 1) := by decide +kernel
theorem dX1_travelTo_139 : decode cX1_travelTo 139 = .ok (.putfield 53, 3) := by decide +kernel
theorem dX1_travelTo_142 : decode cX1_travelTo 142 = .ok (.return_, 1) := by decide +kernel
theorem dX1_hopedStop_0 : decode cX1_hopedStop 0 = .ok (.iload_n 1, 1) := by decide +kernel
theorem dX1_hopedStop_1 : decode cX1_hopedStop 1 = .ok (.ifCond .lt 21, 3) := by decide +kernel
theorem dX1_hopedStop_4 : decode cX1_hopedStop 4 = .ok (.iload_n 1, 1) := by decide +kernel
theorem dX1_hopedStop_5 : decode cX1_hopedStop 5 = .ok (.aload_n 0, 1) := by decide +kernel
theorem dX1_hopedStop_6 : decode cX1_hopedStop 6 = .ok (.getfield 49, 3) := by decide +kernel
theorem dX1_hopedStop_9 : decode cX1_hopedStop 9 = .ok (.if_icmp .ge 13, 3) := by decide +kernel
theorem dX1_hopedStop_12 : decode cX1_hopedStop 12 = .ok (.aload_n 0, 1) := by decide +kernel
theorem dX1_hopedStop_13 : decode cX1_hopedStop 13 = .ok (.getfield 27, 3) := by decide +kernel
theorem dX1_hopedStop_16 : decode cX1_hopedStop 16 = .ok (.iload_n 1, 1) := by decide +kernel
theorem dX1_hopedStop_17 : decode cX1_hopedStop 17 = .ok (.iaload, 1) := by decide +kernel
theorem dX1_hopedStop_18 : decode cX1_hopedStop 18 = .ok (.iconst 2, 1) := by decide +kernel
theorem dX1_hopedStop_19 : decode cX1_hopedStop 19 = .ok (.if_icmp .ne 5, 3) := by decide +kernel
theorem dX1_hopedStop_22 : decode cX1_hopedStop 22 = .ok (.iconst (-1), 1) := by decide +kernel
theorem dX1_hopedStop_23 : decode cX1_hopedStop 23 = .ok (.ireturn, 1) := by decide +kernel
theorem dX1_hopedStop_24 : decode cX1_hopedStop 24 = .ok (.aload_n 0, 1) := by decide +kernel
theorem dX1_hopedStop_25 : decode cX1_hopedStop 25 = .ok (.getfield 27, 3) := by decide +kernel
theorem dX1_hopedStop_28 : decode cX1_hopedStop 28 = .ok (.iload_n 1, 1) := by decide +kernel
theorem dX1_hopedStop_29 : decode cX1_hopedStop 29 = .ok (.iaload, 1) := by decide +kernel
theorem dX1_hopedStop_30 : decode cX1_hopedStop 30 = .ok (.iconst 1, 1) := by decide +kernel
theorem dX1_hopedStop_31 : decode cX1_hopedStop 31 = .ok (.if_icmp .ne 12, 3) := by decide +kernel
theorem dX1_hopedStop_34 : decode cX1_hopedStop 34 = .ok (.aload_n 0, 1) := by decide +kernel
theorem dX1_hopedStop_35 : decode cX1_hopedStop 35 = .ok (.getfield 21, 3) := by decide +kernel
theorem dX1_hopedStop_38 : decode cX1_hopedStop 38 = .ok (.iload_n 1, 1) := by decide +kernel
theorem dX1_hopedStop_39 : decode cX1_hopedStop 39 = .ok (.iaload, 1) := by decide +kernel
theorem dX1_hopedStop_40 : decode cX1_hopedStop 40 = .ok (.goto 9, 3) := by decide +kernel
theorem dX1_hopedStop_43 : decode cX1_hopedStop 43 = .ok (.aload_n 0, 1) := by decide +kernel
theorem dX1_hopedStop_44 : decode cX1_hopedStop 44 = .ok (.getfield 18, 3) := by decide +kernel
theorem dX1_hopedStop_47 : decode cX1_hopedStop 47 = .ok (.iload_n 1, 1) := by decide +kernel
theorem dX1_hopedStop_48 : decode cX1_hopedStop 48 = .ok (.iaload, 1) := by decide +kernel
theorem dX1_hopedStop_49 : decode cX1_hopedStop 49 = .ok (.ireturn, 1) := by decide +kernel
theorem dX1_addGrudge_0 : decode cX1_addGrudge 0 = .ok (.iload_n 1, 1) := by decide +kernel
theorem dX1_addGrudge_1 : decode cX1_addGrudge 1 = .ok (.ifCond .lt 32, 3) := by decide +kernel
theorem dX1_addGrudge_4 : decode cX1_addGrudge 4 = .ok (.iload_n 1, 1) := by decide +kernel
theorem dX1_addGrudge_5 : decode cX1_addGrudge 5 = .ok (.aload_n 0, 1) := by decide +kernel
theorem dX1_addGrudge_6 : decode cX1_addGrudge 6 = .ok (.getfield 49, 3) := by decide +kernel
theorem dX1_addGrudge_9 : decode cX1_addGrudge 9 = .ok (.if_icmp .ge 24, 3) := by decide +kernel
theorem dX1_addGrudge_12 : decode cX1_addGrudge 12 = .ok (.aload_n 0, 1) := by decide +kernel
theorem dX1_addGrudge_13 : decode cX1_addGrudge 13 = .ok (.getfield 30, 3) := by decide +kernel
theorem dX1_addGrudge_16 : decode cX1_addGrudge 16 = .ok (.iload_n 1, 1) := by decide +kernel
theorem dX1_addGrudge_17 : decode cX1_addGrudge 17 = .ok (.iaload, 1) := by decide +kernel
theorem dX1_addGrudge_18 : decode cX1_addGrudge 18 = .ok (.bipush 9, 2) := by decide +kernel
theorem dX1_addGrudge_20 : decode cX1_addGrudge 20 = .ok (.if_icmp .ge 13, 3) := by decide +kernel
theorem dX1_addGrudge_23 : decode cX1_addGrudge 23 = .ok (.aload_n 0, 1) := by decide +kernel
theorem dX1_addGrudge_24 : decode cX1_addGrudge 24 = .ok (.getfield 30, 3) := by decide +kernel
theorem dX1_addGrudge_27 : decode cX1_addGrudge 27 = .ok (.iload_n 1, 1) := by decide +kernel
theorem dX1_addGrudge_28 : decode cX1_addGrudge 28 = .ok (.dup2, 1) := by decide +kernel
theorem dX1_addGrudge_29 : decode cX1_addGrudge 29 = .ok (.iaload, 1) := by decide +kernel
theorem dX1_addGrudge_30 : decode cX1_addGrudge 30 = .ok (.iconst 1, 1) := by decide +kernel
theorem dX1_addGrudge_31 : decode cX1_addGrudge 31 = .ok (.iadd, 1) := by decide +kernel
theorem dX1_addGrudge_32 : decode cX1_addGrudge 32 = .ok (.iastore, 1) := by decide +kernel
theorem dX1_addGrudge_33 : decode cX1_addGrudge 33 = .ok (.return_, 1) := by decide +kernel
theorem dX1_letOut_0 : decode cX1_letOut 0 = .ok (.iconst 0, 1) := by decide +kernel
theorem dX1_letOut_1 : decode cX1_letOut 1 = .ok (.istore_n 1, 1) := by decide +kernel
theorem dX1_letOut_2 : decode cX1_letOut 2 = .ok (.iload_n 1, 1) := by decide +kernel
theorem dX1_letOut_3 : decode cX1_letOut 3 = .ok (.aload_n 0, 1) := by decide +kernel
theorem dX1_letOut_4 : decode cX1_letOut 4 = .ok (.getfield 49, 3) := by decide +kernel
theorem dX1_letOut_7 : decode cX1_letOut 7 = .ok (.if_icmp .ge 56, 3) := by decide +kernel
theorem dX1_letOut_10 : decode cX1_letOut 10 = .ok (.aload_n 0, 1) := by decide +kernel
theorem dX1_letOut_11 : decode cX1_letOut 11 = .ok (.getfield 27, 3) := by decide +kernel
theorem dX1_letOut_14 : decode cX1_letOut 14 = .ok (.iload_n 1, 1) := by decide +kernel
theorem dX1_letOut_15 : decode cX1_letOut 15 = .ok (.iaload, 1) := by decide +kernel
theorem dX1_letOut_16 : decode cX1_letOut 16 = .ok (.iconst 1, 1) := by decide +kernel
theorem dX1_letOut_17 : decode cX1_letOut 17 = .ok (.if_icmp .ne 40, 3) := by decide +kernel
theorem dX1_letOut_20 : decode cX1_letOut 20 = .ok (.aload_n 0, 1) := by decide +kernel
theorem dX1_letOut_21 : decode cX1_letOut 21 = .ok (.getfield 21, 3) := by decide +kernel
theorem dX1_letOut_24 : decode cX1_letOut 24 = .ok (.iload_n 1, 1) := by decide +kernel
theorem dX1_letOut_25 : decode cX1_letOut 25 = .ok (.iaload, 1) := by decide +kernel
theorem dX1_letOut_26 : decode cX1_letOut 26 = .ok (.aload_n 0, 1) := by decide +kernel
theorem dX1_letOut_27 : decode cX1_letOut 27 = .ok (.getfield 53, 3) := by decide +kernel
theorem dX1_letOut_30 : decode cX1_letOut 30 = .ok (.if_icmp .ne 27, 3) := by decide +kernel
theorem dX1_letOut_33 : decode cX1_letOut 33 = .ok (.aload_n 0, 1) := by decide +kernel
theorem dX1_letOut_34 : decode cX1_letOut 34 = .ok (.getfield 27, 3) := by decide +kernel
theorem dX1_letOut_37 : decode cX1_letOut 37 = .ok (.iload_n 1, 1) := by decide +kernel
theorem dX1_letOut_38 : decode cX1_letOut 38 = .ok (.iconst 2, 1) := by decide +kernel
theorem dX1_letOut_39 : decode cX1_letOut 39 = .ok (.iastore, 1) := by decide +kernel
theorem dX1_letOut_40 : decode cX1_letOut 40 = .ok (.aload_n 0, 1) := by decide +kernel
theorem dX1_letOut_41 : decode cX1_letOut 41 = .ok (.getfield 30, 3) := by decide +kernel
theorem dX1_letOut_44 : decode cX1_letOut 44 = .ok (.iload_n 1, 1) := by decide +kernel
theorem dX1_letOut_45 : decode cX1_letOut 45 = .ok (.iconst 0, 1) := by decide +kernel
theorem dX1_letOut_46 : decode cX1_letOut 46 = .ok (.iastore, 1) := by decide +kernel
theorem dX1_letOut_47 : decode cX1_letOut 47 = .ok (.aload_n 0, 1) := by decide +kernel
theorem dX1_letOut_48 : decode cX1_letOut 48 = .ok (.dup, 1) := by decide +kernel
theorem dX1_letOut_49 : decode cX1_letOut 49 = .ok (.getfield 68, 3) := by decide +kernel
theorem dX1_letOut_52 : decode cX1_letOut 52 = .ok (.iconst 1, 1) := by decide +kernel
theorem dX1_letOut_53 : decode cX1_letOut 53 = .ok (.iadd, 1) := by decide +kernel
theorem dX1_letOut_54 : decode cX1_letOut 54 = .ok (.putfield 68, 3) := by decide +kernel
theorem dX1_letOut_57 : decode cX1_letOut 57 = .ok (.iinc 1 1, 3) := by decide +kernel
theorem dX1_letOut_60 : decode cX1_letOut 60 = .ok (.goto (-58), 3) := by decide +kernel
theorem dX1_letOut_63 : decode cX1_letOut 63 = .ok (.return_, 1) := by decide +kernel
theorem dX1_letIn_0 : decode cX1_letIn 0 = .ok (.aload_n 0, 1) := by decide +kernel
theorem dX1_letIn_1 : decode cX1_letIn 1 = .ok (.invokevirtual 77, 3) := by decide +kernel
theorem dX1_letIn_4 : decode cX1_letIn 4 = .ok (.istore_n 1, 1) := by decide +kernel
theorem dX1_letIn_5 : decode cX1_letIn 5 = .ok (.iconst 0, 1) := by decide +kernel
theorem dX1_letIn_6 : decode cX1_letIn 6 = .ok (.istore_n 2, 1) := by decide +kernel
theorem dX1_letIn_7 : decode cX1_letIn 7 = .ok (.iload_n 2, 1) := by decide +kernel
theorem dX1_letIn_8 : decode cX1_letIn 8 = .ok (.aload_n 0, 1) := by decide +kernel
theorem dX1_letIn_9 : decode cX1_letIn 9 = .ok (.getfield 49, 3) := by decide +kernel
theorem dX1_letIn_12 : decode cX1_letIn 12 = .ok (.if_icmp .ge 82, 3) := by decide +kernel
theorem dX1_letIn_15 : decode cX1_letIn 15 = .ok (.aload_n 0, 1) := by decide +kernel
theorem dX1_letIn_16 : decode cX1_letIn 16 = .ok (.getfield 27, 3) := by decide +kernel
theorem dX1_letIn_19 : decode cX1_letIn 19 = .ok (.iload_n 2, 1) := by decide +kernel
theorem dX1_letIn_20 : decode cX1_letIn 20 = .ok (.iaload, 1) := by decide +kernel
theorem dX1_letIn_21 : decode cX1_letIn 21 = .ok (.ifCond .ne 67, 3) := by decide +kernel
theorem dX1_letIn_24 : decode cX1_letIn 24 = .ok (.aload_n 0, 1) := by decide +kernel
theorem dX1_letIn_25 : decode cX1_letIn 25 = .ok (.getfield 18, 3) := by decide +kernel
theorem dX1_letIn_28 : decode cX1_letIn 28 = .ok (.iload_n 2, 1) := by decide +kernel
theorem dX1_letIn_29 : decode cX1_letIn 29 = .ok (.iaload, 1) := by decide +kernel
theorem dX1_letIn_30 : decode cX1_letIn 30 = .ok (.aload_n 0, 1) := by decide +kernel
theorem dX1_letIn_31 : decode cX1_letIn 31 = .ok (.getfield 53, 3) := by decide +kernel
theorem dX1_letIn_34 : decode cX1_letIn 34 = .ok (.if_icmp .eq 6, 3) := by decide +kernel
theorem dX1_letIn_37 : decode cX1_letIn 37 = .ok (.goto 51, 3) := by decide +kernel
theorem dX1_letIn_40 : decode cX1_letIn 40 = .ok (.iload_n 1, 1) := by decide +kernel
theorem dX1_letIn_41 : decode cX1_letIn 41 = .ok (.aload_n 0, 1) := by decide +kernel
theorem dX1_letIn_42 : decode cX1_letIn 42 = .ok (.getfield 24, 3) := by decide +kernel
theorem dX1_letIn_45 : decode cX1_letIn 45 = .ok (.iload_n 2, 1) := by decide +kernel
theorem dX1_letIn_46 : decode cX1_letIn 46 = .ok (.iaload, 1) := by decide +kernel
theorem dX1_letIn_47 : decode cX1_letIn 47 = .ok (.iadd, 1) := by decide +kernel
theorem dX1_letIn_48 : decode cX1_letIn 48 = .ok (.aload_n 0, 1) := by decide +kernel
theorem dX1_letIn_49 : decode cX1_letIn 49 = .ok (.getfield 9, 3) := by decide +kernel
theorem dX1_letIn_52 : decode cX1_letIn 52 = .ok (.iconst 0, 1) := by decide +kernel
theorem dX1_letIn_53 : decode cX1_letIn 53 = .ok (.iaload, 1) := by decide +kernel
theorem dX1_letIn_54 : decode cX1_letIn 54 = .ok (.if_icmp .gt 29, 3) := by decide +kernel
theorem dX1_letIn_57 : decode cX1_letIn 57 = .ok (.iload_n 1, 1) := by decide +kernel
theorem dX1_letIn_58 : decode cX1_letIn 58 = .ok (.aload_n 0, 1) := by decide +kernel
theorem dX1_letIn_59 : decode cX1_letIn 59 = .ok (.getfield 24, 3) := by decide +kernel
theorem dX1_letIn_62 : decode cX1_letIn 62 = .ok (.iload_n 2, 1) := by decide +kernel
theorem dX1_letIn_63 : decode cX1_letIn 63 = .ok (.iaload, 1) := by decide +kernel
theorem dX1_letIn_64 : decode cX1_letIn 64 = .ok (.iadd, 1) := by decide +kernel
theorem dX1_letIn_65 : decode cX1_letIn 65 = .ok (.istore_n 1, 1) := by decide +kernel
theorem dX1_letIn_66 : decode cX1_letIn 66 = .ok (.aload_n 0, 1) := by decide +kernel
theorem dX1_letIn_67 : decode cX1_letIn 67 = .ok (.getfield 27, 3) := by decide +kernel
theorem dX1_letIn_70 : decode cX1_letIn 70 = .ok (.iload_n 2, 1) := by decide +kernel
theorem dX1_letIn_71 : decode cX1_letIn 71 = .ok (.iconst 1, 1) := by decide +kernel
theorem dX1_letIn_72 : decode cX1_letIn 72 = .ok (.iastore, 1) := by decide +kernel
theorem dX1_letIn_73 : decode cX1_letIn 73 = .ok (.aload_n 0, 1) := by decide +kernel
theorem dX1_letIn_74 : decode cX1_letIn 74 = .ok (.getfield 30, 3) := by decide +kernel
theorem dX1_letIn_77 : decode cX1_letIn 77 = .ok (.iload_n 2, 1) := by decide +kernel
theorem dX1_letIn_78 : decode cX1_letIn 78 = .ok (.iconst 0, 1) := by decide +kernel
theorem dX1_letIn_79 : decode cX1_letIn 79 = .ok (.iastore, 1) := by decide +kernel
theorem dX1_letIn_80 : decode cX1_letIn 80 = .ok (.goto 8, 3) := by decide +kernel
theorem dX1_letIn_83 : decode cX1_letIn 83 = .ok (.aload_n 0, 1) := by decide +kernel
theorem dX1_letIn_84 : decode cX1_letIn 84 = .ok (.iload_n 2, 1) := by decide +kernel
theorem dX1_letIn_85 : decode cX1_letIn 85 = .ok (.invokevirtual 139, 3) := by decide +kernel
theorem dX1_letIn_88 : decode cX1_letIn 88 = .ok (.iinc 2 1, 3) := by decide +kernel
theorem dX1_letIn_91 : decode cX1_letIn 91 = .ok (.goto (-84), 3) := by decide +kernel
theorem dX1_letIn_94 : decode cX1_letIn 94 = .ok (.return_, 1) := by decide +kernel
theorem dX1_position_0 : decode cX1_position 0 = .ok (.aload_n 0, 1) := by decide +kernel
theorem dX1_position_1 : decode cX1_position 1 = .ok (.getfield 53, 3) := by decide +kernel
theorem dX1_position_4 : decode cX1_position 4 = .ok (.istore_n 1, 1) := by decide +kernel
theorem dX1_position_5 : decode cX1_position 5 = .ok (.iconst 0, 1) := by decide +kernel
theorem dX1_position_6 : decode cX1_position 6 = .ok (.istore_n 2, 1) := by decide +kernel
theorem dX1_position_7 : decode cX1_position 7 = .ok (.iload_n 2, 1) := by decide +kernel
theorem dX1_position_8 : decode cX1_position 8 = .ok (.aload_n 0, 1) := by decide +kernel
theorem dX1_position_9 : decode cX1_position 9 = .ok (.getfield 49, 3) := by decide +kernel
theorem dX1_position_12 : decode cX1_position 12 = .ok (.if_icmp .ge 34, 3) := by decide +kernel
theorem dX1_position_15 : decode cX1_position 15 = .ok (.iload_n 1, 1) := by decide +kernel
theorem dX1_position_16 : decode cX1_position 16 = .ok (.aload_n 0, 1) := by decide +kernel
theorem dX1_position_17 : decode cX1_position 17 = .ok (.getfield 27, 3) := by decide +kernel
theorem dX1_position_20 : decode cX1_position 20 = .ok (.iload_n 2, 1) := by decide +kernel
theorem dX1_position_21 : decode cX1_position 21 = .ok (.iaload, 1) := by decide +kernel
theorem dX1_position_22 : decode cX1_position 22 = .ok (.iconst 4, 1) := by decide +kernel
theorem dX1_position_23 : decode cX1_position 23 = .ok (.ishl, 1) := by decide +kernel
theorem dX1_position_24 : decode cX1_position 24 = .ok (.aload_n 0, 1) := by decide +kernel
theorem dX1_position_25 : decode cX1_position 25 = .ok (.getfield 30, 3) := by decide +kernel
theorem dX1_position_28 : decode cX1_position 28 = .ok (.iload_n 2, 1) := by decide +kernel
theorem dX1_position_29 : decode cX1_position 29 = .ok (.iaload, 1) := by decide +kernel
theorem dX1_position_30 : decode cX1_position 30 = .ok (.ior, 1) := by decide +kernel
theorem dX1_position_31 : decode cX1_position 31 = .ok (.iconst 3, 1) := by decide +kernel
theorem dX1_position_32 : decode cX1_position 32 = .ok (.bipush 6, 2) := by decide +kernel
theorem dX1_position_34 : decode cX1_position 34 = .ok (.iload_n 2, 1) := by decide +kernel
theorem dX1_position_35 : decode cX1_position 35 = .ok (.imul, 1) := by decide +kernel
theorem dX1_position_36 : decode cX1_position 36 = .ok (.iadd, 1) := by decide +kernel
theorem dX1_position_37 : decode cX1_position 37 = .ok (.ishl, 1) := by decide +kernel
theorem dX1_position_38 : decode cX1_position 38 = .ok (.ior, 1) := by decide +kernel
theorem dX1_position_39 : decode cX1_position 39 = .ok (.istore_n 1, 1) := by decide +kernel
theorem dX1_position_40 : decode cX1_position 40 = .ok (.iinc 2 1, 3) := by decide +kernel
theorem dX1_position_43 : decode cX1_position 43 = .ok (.goto (-36), 3) := by decide +kernel
theorem dX1_position_46 : decode cX1_position 46 = .ok (.iload_n 1, 1) := by decide +kernel
theorem dX1_position_47 : decode cX1_position 47 = .ok (.ireturn, 1) := by decide +kernel
theorem dX1_takePosition_0 : decode cX1_takePosition 0 = .ok (.aload_n 0, 1) := by decide +kernel
theorem dX1_takePosition_1 : decode cX1_takePosition 1 = .ok (.iload_n 1, 1) := by decide +kernel
theorem dX1_takePosition_2 : decode cX1_takePosition 2 = .ok (.bipush 7, 2) := by decide +kernel
theorem dX1_takePosition_4 : decode cX1_takePosition 4 = .ok (.iand, 1) := by decide +kernel
theorem dX1_takePosition_5 : decode cX1_takePosition 5 = .ok (.putfield 53, 3) := by decide +kernel
theorem dX1_takePosition_8 : decode cX1_takePosition 8 = .ok (.iconst 0, 1) := by decide +kernel
theorem dX1_takePosition_9 : decode cX1_takePosition 9 = .ok (.istore_n 2, 1) := by decide +kernel
theorem dX1_takePosition_10 : decode cX1_takePosition 10 = .ok (.iload_n 2, 1) := by decide +kernel
theorem dX1_takePosition_11 : decode cX1_takePosition 11 = .ok (.aload_n 0, 1) := by decide +kernel
theorem dX1_takePosition_12 : decode cX1_takePosition 12 = .ok (.getfield 49, 3) := by decide +kernel
theorem dX1_takePosition_15 : decode cX1_takePosition 15 = .ok (.if_icmp .ge 39, 3) := by decide +kernel
theorem dX1_takePosition_18 : decode cX1_takePosition 18 = .ok (.iload_n 1, 1) := by decide +kernel
theorem dX1_takePosition_19 : decode cX1_takePosition 19 = .ok (.iconst 3, 1) := by decide +kernel
theorem dX1_takePosition_20 : decode cX1_takePosition 20 = .ok (.bipush 6, 2) := by decide +kernel
theorem dX1_takePosition_22 : decode cX1_takePosition 22 = .ok (.iload_n 2, 1) := by decide +kernel
theorem dX1_takePosition_23 : decode cX1_takePosition 23 = .ok (.imul, 1) := by decide +kernel
theorem dX1_takePosition_24 : decode cX1_takePosition 24 = .ok (.iadd, 1) := by decide +kernel
theorem dX1_takePosition_25 : decode cX1_takePosition 25 = .ok (.ishr, 1) := by decide +kernel
theorem dX1_takePosition_26 : decode cX1_takePosition 26 = .ok (.istore_n 3, 1) := by decide +kernel
theorem dX1_takePosition_27 : decode cX1_takePosition 27 = .ok (.aload_n 0, 1) := by decide +kernel
theorem dX1_takePosition_28 : decode cX1_takePosition 28 = .ok (.getfield 27, 3) := by decide +kernel
theorem dX1_takePosition_31 : decode cX1_takePosition 31 = .ok (.iload_n 2, 1) := by decide +kernel
theorem dX1_takePosition_32 : decode cX1_takePosition 32 = .ok (.iload_n 3, 1) := by decide +kernel
theorem dX1_takePosition_33 : decode cX1_takePosition 33 = .ok (.iconst 4, 1) := by decide +kernel
theorem dX1_takePosition_34 : decode cX1_takePosition 34 = .ok (.ishr, 1) := by decide +kernel
theorem dX1_takePosition_35 : decode cX1_takePosition 35 = .ok (.iconst 3, 1) := by decide +kernel
theorem dX1_takePosition_36 : decode cX1_takePosition 36 = .ok (.iand, 1) := by decide +kernel
theorem dX1_takePosition_37 : decode cX1_takePosition 37 = .ok (.iastore, 1) := by decide +kernel
theorem dX1_takePosition_38 : decode cX1_takePosition 38 = .ok (.aload_n 0, 1) := by decide +kernel
theorem dX1_takePosition_39 : decode cX1_takePosition 39 = .ok (.getfield 30, 3) := by decide +kernel
theorem dX1_takePosition_42 : decode cX1_takePosition 42 = .ok (.iload_n 2, 1) := by decide +kernel
theorem dX1_takePosition_43 : decode cX1_takePosition 43 = .ok (.iload_n 3, 1) := by decide +kernel
theorem dX1_takePosition_44 : decode cX1_takePosition 44 = .ok (.bipush 15, 2) := by decide +kernel
theorem dX1_takePosition_46 : decode cX1_takePosition 46 = .ok (.iand, 1) := by decide +kernel
theorem dX1_takePosition_47 : decode cX1_takePosition 47 = .ok (.iastore, 1) := by decide +kernel
theorem dX1_takePosition_48 : decode cX1_takePosition 48 = .ok (.iinc 2 1, 3) := by decide +kernel
theorem dX1_takePosition_51 : decode cX1_takePosition 51 = .ok (.goto (-41), 3) := by decide +kernel
theorem dX1_takePosition_54 : decode cX1_takePosition 54 = .ok (.return_, 1) := by decide +kernel
