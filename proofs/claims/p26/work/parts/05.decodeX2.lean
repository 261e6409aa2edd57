theorem dX2_init_0 : decode cX2_init 0 = .ok (.aload_n 0, 1) := by decide +kernel
theorem dX2_init_1 : decode cX2_init 1 = .ok (.invokespecial 3, 3) := by decide +kernel
theorem dX2_init_4 : decode cX2_init 4 = .ok (.aload_n 0, 1) := by decide +kernel
theorem dX2_init_5 : decode cX2_init 5 = .ok (.bipush 120, 2) := by decide +kernel
theorem dX2_init_7 : decode cX2_init 7 = .ok (.newarray .char, 2) := by decide +kernel
theorem dX2_init_9 : decode cX2_init 9 = .ok (.putfield 11, 3) := by decide +kernel
theorem dX2_init_12 : decode cX2_init 12 = .ok (.return_, 1) := by decide +kernel
theorem dX2_isFull_0 : decode cX2_isFull 0 = .ok (.aload_n 0, 1) := by decide +kernel
theorem dX2_isFull_1 : decode cX2_isFull 1 = .ok (.getfield 15, 3) := by decide +kernel
theorem dX2_isFull_4 : decode cX2_isFull 4 = .ok (.aload_n 0, 1) := by decide +kernel
theorem dX2_isFull_5 : decode cX2_isFull 5 = .ok (.getfield 11, 3) := by decide +kernel
theorem dX2_isFull_8 : decode cX2_isFull 8 = .ok (.arraylength, 1) := by decide +kernel
theorem dX2_isFull_9 : decode cX2_isFull 9 = .ok (.if_icmp .lt 7, 3) := by decide +kernel
theorem dX2_isFull_12 : decode cX2_isFull 12 = .ok (.iconst 1, 1) := by decide +kernel
theorem dX2_isFull_13 : decode cX2_isFull 13 = .ok (.goto 4, 3) := by decide +kernel
theorem dX2_isFull_16 : decode cX2_isFull 16 = .ok (.iconst 0, 1) := by decide +kernel
theorem dX2_isFull_17 : decode cX2_isFull 17 = .ok (.ireturn, 1) := by decide +kernel
theorem dX2_size_0 : decode cX2_size 0 = .ok (.aload_n 0, 1) := by decide +kernel
theorem dX2_size_1 : decode cX2_size 1 = .ok (.getfield 15, 3) := by decide +kernel
theorem dX2_size_4 : decode cX2_size 4 = .ok (.ireturn, 1) := by decide +kernel
theorem dX2_add_0 : decode cX2_add 0 = .ok (.aload_n 0, 1) := by decide +kernel
theorem dX2_add_1 : decode cX2_add 1 = .ok (.getfield 15, 3) := by decide +kernel
theorem dX2_add_4 : decode cX2_add 4 = .ok (.aload_n 0, 1) := by decide +kernel
theorem dX2_add_5 : decode cX2_add 5 = .ok (.getfield 11, 3) := by decide +kernel
theorem dX2_add_8 : decode cX2_add 8 = .ok (.arraylength, 1) := by decide +kernel
theorem dX2_add_9 : decode cX2_add 9 = .ok (.if_icmp .ge 23, 3) := by decide +kernel
theorem dX2_add_12 : decode cX2_add 12 = .ok (.aload_n 0, 1) := by decide +kernel
theorem dX2_add_13 : decode cX2_add 13 = .ok (.getfield 11, 3) := by decide +kernel
theorem dX2_add_16 : decode cX2_add 16 = .ok (.aload_n 0, 1) := by decide +kernel
theorem dX2_add_17 : decode cX2_add 17 = .ok (.getfield 15, 3) := by decide +kernel
theorem dX2_add_20 : decode cX2_add 20 = .ok (.iload_n 1, 1) := by decide +kernel
theorem dX2_add_21 : decode cX2_add 21 = .ok (.castore, 1) := by decide +kernel
theorem dX2_add_22 : decode cX2_add 22 = .ok (.aload_n 0, 1) := by decide +kernel
theorem dX2_add_23 : decode cX2_add 23 = .ok (.dup, 1) := by decide +kernel
theorem dX2_add_24 : decode cX2_add 24 = .ok (.getfield 15, 3) := by decide +kernel
theorem dX2_add_27 : decode cX2_add 27 = .ok (.iconst 1, 1) := by decide +kernel
theorem dX2_add_28 : decode cX2_add 28 = .ok (.iadd, 1) := by decide +kernel
theorem dX2_add_29 : decode cX2_add 29 = .ok (.putfield 15, 3) := by decide +kernel
theorem dX2_add_32 : decode cX2_add 32 = .ok (.aload_n 0, 1) := by decide +kernel
theorem dX2_add_33 : decode cX2_add 33 = .ok (.getfield 15, 3) := by decide +kernel
theorem dX2_add_36 : decode cX2_add 36 = .ok (.ireturn, 1) := by decide +kernel
theorem dX2_signAt_0 : decode cX2_signAt 0 = .ok (.iload_n 1, 1) := by decide +kernel
theorem dX2_signAt_1 : decode cX2_signAt 1 = .ok (.ifCond .lt 20, 3) := by decide +kernel
theorem dX2_signAt_4 : decode cX2_signAt 4 = .ok (.iload_n 1, 1) := by decide +kernel
theorem dX2_signAt_5 : decode cX2_signAt 5 = .ok (.aload_n 0, 1) := by decide +kernel
theorem dX2_signAt_6 : decode cX2_signAt 6 = .ok (.getfield 15, 3) := by decide +kernel
theorem dX2_signAt_9 : decode cX2_signAt 9 = .ok (.if_icmp .ge 12, 3) := by decide +kernel
theorem dX2_signAt_12 : decode cX2_signAt 12 = .ok (.aload_n 0, 1) := by decide +kernel
theorem dX2_signAt_13 : decode cX2_signAt 13 = .ok (.getfield 11, 3) := by decide +kernel
theorem dX2_signAt_16 : decode cX2_signAt 16 = .ok (.iload_n 1, 1) := by decide +kernel
theorem dX2_signAt_17 : decode cX2_signAt 17 = .ok (.caload, 1) := by decide +kernel
theorem dX2_signAt_18 : decode cX2_signAt 18 = .ok (.goto 4, 3) := by decide +kernel
theorem dX2_signAt_21 : decode cX2_signAt 21 = .ok (.iconst (-1), 1) := by decide +kernel
theorem dX2_signAt_22 : decode cX2_signAt 22 = .ok (.ireturn, 1) := by decide +kernel
theorem dX2_digitAt_0 : decode cX2_digitAt 0 = .ok (.aload_n 0, 1) := by decide +kernel
theorem dX2_digitAt_1 : decode cX2_digitAt 1 = .ok (.iload_n 1, 1) := by decide +kernel
theorem dX2_digitAt_2 : decode cX2_digitAt 2 = .ok (.invokevirtual 19, 3) := by decide +kernel
theorem dX2_digitAt_5 : decode cX2_digitAt 5 = .ok (.istore_n 2, 1) := by decide +kernel
theorem dX2_digitAt_6 : decode cX2_digitAt 6 = .ok (.iload_n 2, 1) := by decide +kernel
theorem dX2_digitAt_7 : decode cX2_digitAt 7 = .ok (.bipush 48, 2) := by decide +kernel
theorem dX2_digitAt_9 : decode cX2_digitAt 9 = .ok (.if_icmp .lt 16, 3) := by decide +kernel
theorem dX2_digitAt_12 : decode cX2_digitAt 12 = .ok (.iload_n 2, 1) := by decide +kernel
theorem dX2_digitAt_13 : decode cX2_digitAt 13 = .ok (.bipush 57, 2) := by decide +kernel
theorem dX2_digitAt_15 : decode cX2_digitAt 15 = .ok (.if_icmp .gt 10, 3) := by decide +kernel
theorem dX2_digitAt_18 : decode cX2_digitAt 18 = .ok (.iload_n 2, 1) := by decide +kernel
theorem dX2_digitAt_19 : decode cX2_digitAt 19 = .ok (.bipush 48, 2) := by decide +kernel
theorem dX2_digitAt_21 : decode cX2_digitAt 21 = .ok (.isub, 1) := by decide +kernel
theorem dX2_digitAt_22 : decode cX2_digitAt 22 = .ok (.goto 4, 3) := by decide +kernel
theorem dX2_digitAt_25 : decode cX2_digitAt 25 = .ok (.iconst (-1), 1) := by decide +kernel
theorem dX2_digitAt_26 : decode cX2_digitAt 26 = .ok (.ireturn, 1) := by decide +kernel
theorem dX2_isCommand_0 : decode cX2_isCommand 0 = .ok (.aload_n 0, 1) := by decide +kernel
theorem dX2_isCommand_1 : decode cX2_isCommand 1 = .ok (.iload_n 1, 1) := by decide +kernel
theorem dX2_isCommand_2 : decode cX2_isCommand 2 = .ok (.invokevirtual 19, 3) := by decide +kernel
theorem dX2_isCommand_5 : decode cX2_isCommand 5 = .ok (.invokestatic 23, 3) := by decide +kernel
theorem dX2_isCommand_8 : decode cX2_isCommand 8 = .ok (.iconst (-1), 1) := by decide +kernel
theorem dX2_isCommand_9 : decode cX2_isCommand 9 = .ok (.if_icmp .eq 7, 3) := by decide +kernel
theorem dX2_isCommand_12 : decode cX2_isCommand 12 = .ok (.iconst 1, 1) := by decide +kernel
theorem dX2_isCommand_13 : decode cX2_isCommand 13 = .ok (.goto 4, 3) := by decide +kernel
theorem dX2_isCommand_16 : decode cX2_isCommand 16 = .ok (.iconst 0, 1) := by decide +kernel
theorem dX2_isCommand_17 : decode cX2_isCommand 17 = .ok (.ireturn, 1) := by decide +kernel
theorem dX2_digitsOf_0 : decode cX2_digitsOf 0 = .ok (.iload_n 0, 1) := by decide +kernel
theorem dX2_digitsOf_1 : decode cX2_digitsOf 1 = .ok (.tableswitch 91 98 114 #[89, 91, 91, 85, 91, 83, 91, 91, 91, 91, 87, 91, 91, 91, 87, 91, 89], 83) := by decide +kernel
theorem dX2_digitsOf_84 : decode cX2_digitsOf 84 = .ok (.iconst 4, 1) := by decide +kernel
theorem dX2_digitsOf_85 : decode cX2_digitsOf 85 = .ok (.ireturn, 1) := by decide +kernel
theorem dX2_digitsOf_86 : decode cX2_digitsOf 86 = .ok (.iconst 3, 1) := by decide +kernel
theorem dX2_digitsOf_87 : decode cX2_digitsOf 87 = .ok (.ireturn, 1) := by decide +kernel
theorem dX2_digitsOf_88 : decode cX2_digitsOf 88 = .ok (.iconst 1, 1) := by decide +kernel
theorem dX2_digitsOf_89 : decode cX2_digitsOf 89 = .ok (.ireturn, 1) := by decide +kernel
theorem dX2_digitsOf_90 : decode cX2_digitsOf 90 = .ok (.iconst 0, 1) := by decide +kernel
theorem dX2_digitsOf_91 : decode cX2_digitsOf 91 = .ok (.ireturn, 1) := by decide +kernel
theorem dX2_digitsOf_92 : decode cX2_digitsOf 92 = .ok (.iconst (-1), 1) := by decide +kernel
theorem dX2_digitsOf_93 : decode cX2_digitsOf 93 = .ok (.ireturn, 1) := by decide +kernel
theorem dX2_firstError_0 : decode cX2_firstError 0 = .ok (.aload_n 0, 1) := by decide +kernel
theorem dX2_firstError_1 : decode cX2_firstError 1 = .ok (.iconst 0, 1) := by decide +kernel
theorem dX2_firstError_2 : decode cX2_firstError 2 = .ok (.invokevirtual 19, 3) := by decide +kernel
theorem dX2_firstError_5 : decode cX2_firstError 5 = .ok (.bipush 72, 2) := by decide +kernel
theorem dX2_firstError_7 : decode cX2_firstError 7 = .ok (.if_icmp .eq 5, 3) := by decide +kernel
theorem dX2_firstError_10 : decode cX2_firstError 10 = .ok (.iconst 0, 1) := by decide +kernel
theorem dX2_firstError_11 : decode cX2_firstError 11 = .ok (.ireturn, 1) := by decide +kernel
theorem dX2_firstError_12 : decode cX2_firstError 12 = .ok (.iconst (-1), 1) := by decide +kernel
theorem dX2_firstError_13 : decode cX2_firstError 13 = .ok (.istore_n 1, 1) := by decide +kernel
theorem dX2_firstError_14 : decode cX2_firstError 14 = .ok (.iconst 0, 1) := by decide +kernel
theorem dX2_firstError_15 : decode cX2_firstError 15 = .ok (.istore_n 2, 1) := by decide +kernel
theorem dX2_firstError_16 : decode cX2_firstError 16 = .ok (.iconst 1, 1) := by decide +kernel
theorem dX2_firstError_17 : decode cX2_firstError 17 = .ok (.istore_n 3, 1) := by decide +kernel
theorem dX2_firstError_18 : decode cX2_firstError 18 = .ok (.iload_n 3, 1) := by decide +kernel
theorem dX2_firstError_19 : decode cX2_firstError 19 = .ok (.aload_n 0, 1) := by decide +kernel
theorem dX2_firstError_20 : decode cX2_firstError 20 = .ok (.getfield 15, 3) := by decide +kernel
theorem dX2_firstError_23 : decode cX2_firstError 23 = .ok (.if_icmp .ge 55, 3) := by decide +kernel
theorem dX2_firstError_26 : decode cX2_firstError 26 = .ok (.iload_n 2, 1) := by decide +kernel
theorem dX2_firstError_27 : decode cX2_firstError 27 = .ok (.ifCond .le 21, 3) := by decide +kernel
theorem dX2_firstError_30 : decode cX2_firstError 30 = .ok (.aload_n 0, 1) := by decide +kernel
theorem dX2_firstError_31 : decode cX2_firstError 31 = .ok (.iload_n 1, 1) := by decide +kernel
theorem dX2_firstError_32 : decode cX2_firstError 32 = .ok (.iload_n 2, 1) := by decide +kernel
theorem dX2_firstError_33 : decode cX2_firstError 33 = .ok (.iload_n 3, 1) := by decide +kernel
theorem dX2_firstError_34 : decode cX2_firstError 34 = .ok (.invokevirtual 26, 3) := by decide +kernel
theorem dX2_firstError_37 : decode cX2_firstError 37 = .ok (.ifCond .ne 5, 3) := by decide +kernel
theorem dX2_firstError_40 : decode cX2_firstError 40 = .ok (.iload_n 3, 1) := by decide +kernel
theorem dX2_firstError_41 : decode cX2_firstError 41 = .ok (.ireturn, 1) := by decide +kernel
theorem dX2_firstError_42 : decode cX2_firstError 42 = .ok (.iinc 2 (-1), 3) := by decide +kernel
theorem dX2_firstError_45 : decode cX2_firstError 45 = .ok (.goto 27, 3) := by decide +kernel
theorem dX2_firstError_48 : decode cX2_firstError 48 = .ok (.aload_n 0, 1) := by decide +kernel
theorem dX2_firstError_49 : decode cX2_firstError 49 = .ok (.iload_n 3, 1) := by decide +kernel
theorem dX2_firstError_50 : decode cX2_firstError 50 = .ok (.invokevirtual 30, 3) := by decide +kernel
theorem dX2_firstError_53 : decode cX2_firstError 53 = .ok (.ifCond .eq 17, 3) := by decide +kernel
theorem dX2_firstError_56 : decode cX2_firstError 56 = .ok (.aload_n 0, 1) := by decide +kernel
theorem dX2_firstError_57 : decode cX2_firstError 57 = .ok (.iload_n 3, 1) := by decide +kernel
theorem dX2_firstError_58 : decode cX2_firstError 58 = .ok (.invokevirtual 19, 3) := by decide +kernel
theorem dX2_firstError_61 : decode cX2_firstError 61 = .ok (.istore_n 1, 1) := by decide +kernel
theorem dX2_firstError_62 : decode cX2_firstError 62 = .ok (.iload_n 1, 1) := by decide +kernel
theorem dX2_firstError_63 : decode cX2_firstError 63 = .ok (.invokestatic 23, 3) := by decide +kernel
theorem dX2_firstError_66 : decode cX2_firstError 66 = .ok (.istore_n 2, 1) := by decide +kernel
theorem dX2_firstError_67 : decode cX2_firstError 67 = .ok (.goto 5, 3) := by decide +kernel
theorem dX2_firstError_70 : decode cX2_firstError 70 = .ok (.iload_n 3, 1) := by decide +kernel
theorem dX2_firstError_71 : decode cX2_firstError 71 = .ok (.ireturn, 1) := by decide +kernel
theorem dX2_firstError_72 : decode cX2_firstError 72 = .ok (.iinc 3 1, 3) := by decide +kernel
theorem dX2_firstError_75 : decode cX2_firstError 75 = .ok (.goto (-57), 3) := by decide +kernel
theorem dX2_firstError_78 : decode cX2_firstError 78 = .ok (.iload_n 2, 1) := by decide +kernel
theorem dX2_firstError_79 : decode cX2_firstError 79 = .ok (.ifCond .le 10, 3) := by decide +kernel
theorem dX2_firstError_82 : decode cX2_firstError 82 = .ok (.aload_n 0, 1) := by decide +kernel
theorem dX2_firstError_83 : decode cX2_firstError 83 = .ok (.getfield 15, 3) := by decide +kernel
theorem dX2_firstError_86 : decode cX2_firstError 86 = .ok (.goto 4, 3) := by decide +kernel
theorem dX2_firstError_89 : decode cX2_firstError 89 = .ok (.iconst (-1), 1) := by decide +kernel
theorem dX2_firstError_90 : decode cX2_firstError 90 = .ok (.ireturn, 1) := by decide +kernel
theorem dX2_isDigitAllowed_0 : decode cX2_isDigitAllowed 0 = .ok (.aload_n 0, 1) := by decide +kernel
theorem dX2_isDigitAllowed_1 : decode cX2_isDigitAllowed 1 = .ok (.iload_n 3, 1) := by decide +kernel
theorem dX2_isDigitAllowed_2 : decode cX2_isDigitAllowed 2 = .ok (.invokevirtual 34, 3) := by decide +kernel
theorem dX2_isDigitAllowed_5 : decode cX2_isDigitAllowed 5 = .ok (.istore 4, 2) := by decide +kernel
theorem dX2_isDigitAllowed_7 : decode cX2_isDigitAllowed 7 = .ok (.iload_n 1, 1) := by decide +kernel
theorem dX2_isDigitAllowed_8 : decode cX2_isDigitAllowed 8 = .ok (.bipush 103, 2) := by decide +kernel
theorem dX2_isDigitAllowed_10 : decode cX2_isDigitAllowed 10 = .ok (.if_icmp .ne 12, 3) := by decide +kernel
theorem dX2_isDigitAllowed_13 : decode cX2_isDigitAllowed 13 = .ok (.iload_n 2, 1) := by decide +kernel
theorem dX2_isDigitAllowed_14 : decode cX2_isDigitAllowed 14 = .ok (.iconst 1, 1) := by decide +kernel
theorem dX2_isDigitAllowed_15 : decode cX2_isDigitAllowed 15 = .ok (.if_icmp .ne 7, 3) := by decide +kernel
theorem dX2_isDigitAllowed_18 : decode cX2_isDigitAllowed 18 = .ok (.iconst 1, 1) := by decide +kernel
theorem dX2_isDigitAllowed_19 : decode cX2_isDigitAllowed 19 = .ok (.goto 4, 3) := by decide +kernel
theorem dX2_isDigitAllowed_22 : decode cX2_isDigitAllowed 22 = .ok (.iconst 0, 1) := by decide +kernel
theorem dX2_isDigitAllowed_23 : decode cX2_isDigitAllowed 23 = .ok (.istore 5, 2) := by decide +kernel
theorem dX2_isDigitAllowed_25 : decode cX2_isDigitAllowed 25 = .ok (.iload 4, 2) := by decide +kernel
theorem dX2_isDigitAllowed_27 : decode cX2_isDigitAllowed 27 = .ok (.iload 5, 2) := by decide +kernel
theorem dX2_isDigitAllowed_29 : decode cX2_isDigitAllowed 29 = .ok (.if_icmp .lt 24, 3) := by decide +kernel
theorem dX2_isDigitAllowed_32 : decode cX2_isDigitAllowed 32 = .ok (.iload 4, 2) := by decide +kernel
theorem dX2_isDigitAllowed_34 : decode cX2_isDigitAllowed 34 = .ok (.iload_n 1, 1) := by decide +kernel
theorem dX2_isDigitAllowed_35 : decode cX2_isDigitAllowed 35 = .ok (.iload_n 2, 1) := by decide +kernel
theorem dX2_isDigitAllowed_36 : decode cX2_isDigitAllowed 36 = .ok (.aload_n 0, 1) := by decide +kernel
theorem dX2_isDigitAllowed_37 : decode cX2_isDigitAllowed 37 = .ok (.iload_n 3, 1) := by decide +kernel
theorem dX2_isDigitAllowed_38 : decode cX2_isDigitAllowed 38 = .ok (.iconst 1, 1) := by decide +kernel
theorem dX2_isDigitAllowed_39 : decode cX2_isDigitAllowed 39 = .ok (.isub, 1) := by decide +kernel
theorem dX2_isDigitAllowed_40 : decode cX2_isDigitAllowed 40 = .ok (.invokevirtual 34, 3) := by decide +kernel
theorem dX2_isDigitAllowed_43 : decode cX2_isDigitAllowed 43 = .ok (.invokestatic 37, 3) := by decide +kernel
theorem dX2_isDigitAllowed_46 : decode cX2_isDigitAllowed 46 = .ok (.if_icmp .gt 7, 3) := by decide +kernel
theorem dX2_isDigitAllowed_49 : decode cX2_isDigitAllowed 49 = .ok (.iconst 1, 1) := by decide +kernel
theorem dX2_isDigitAllowed_50 : decode cX2_isDigitAllowed 50 = .ok (.goto 4, 3) := by decide +kernel
theorem dX2_isDigitAllowed_53 : decode cX2_isDigitAllowed 53 = .ok (.iconst 0, 1) := by decide +kernel
theorem dX2_isDigitAllowed_54 : decode cX2_isDigitAllowed 54 = .ok (.ireturn, 1) := by decide +kernel
theorem dX2_greatestDigit_0 : decode cX2_greatestDigit 0 = .ok (.iload_n 0, 1) := by decide +kernel
theorem dX2_greatestDigit_1 : decode cX2_greatestDigit 1 = .ok (.bipush 103, 2) := by decide +kernel
theorem dX2_greatestDigit_3 : decode cX2_greatestDigit 3 = .ok (.if_icmp .ne 15, 3) := by decide +kernel
theorem dX2_greatestDigit_6 : decode cX2_greatestDigit 6 = .ok (.iload_n 1, 1) := by decide +kernel
theorem dX2_greatestDigit_7 : decode cX2_greatestDigit 7 = .ok (.iconst 1, 1) := by decide +kernel
theorem dX2_greatestDigit_8 : decode cX2_greatestDigit 8 = .ok (.if_icmp .ne 7, 3) := by decide +kernel
theorem dX2_greatestDigit_11 : decode cX2_greatestDigit 11 = .ok (.iconst 4, 1) := by decide +kernel
theorem dX2_greatestDigit_12 : decode cX2_greatestDigit 12 = .ok (.goto 5, 3) := by decide +kernel
theorem dX2_greatestDigit_15 : decode cX2_greatestDigit 15 = .ok (.bipush 6, 2) := by decide +kernel
theorem dX2_greatestDigit_17 : decode cX2_greatestDigit 17 = .ok (.ireturn, 1) := by decide +kernel
theorem dX2_greatestDigit_18 : decode cX2_greatestDigit 18 = .ok (.iload_n 0, 1) := by decide +kernel
theorem dX2_greatestDigit_19 : decode cX2_greatestDigit 19 = .ok (.bipush 101, 2) := by decide +kernel
theorem dX2_greatestDigit_21 : decode cX2_greatestDigit 21 = .ok (.if_icmp .eq 5, 3) := by decide +kernel
theorem dX2_greatestDigit_24 : decode cX2_greatestDigit 24 = .ok (.iconst 3, 1) := by decide +kernel
theorem dX2_greatestDigit_25 : decode cX2_greatestDigit 25 = .ok (.ireturn, 1) := by decide +kernel
theorem dX2_greatestDigit_26 : decode cX2_greatestDigit 26 = .ok (.iload_n 1, 1) := by decide +kernel
theorem dX2_greatestDigit_27 : decode cX2_greatestDigit 27 = .ok (.iconst 3, 1) := by decide +kernel
theorem dX2_greatestDigit_28 : decode cX2_greatestDigit 28 = .ok (.if_icmp .ne 5, 3) := by decide +kernel
theorem dX2_greatestDigit_31 : decode cX2_greatestDigit 31 = .ok (.iconst 2, 1) := by decide +kernel
theorem dX2_greatestDigit_32 : decode cX2_greatestDigit 32 = .ok (.ireturn, 1) := by decide +kernel
theorem dX2_greatestDigit_33 : decode cX2_greatestDigit 33 = .ok (.iload_n 1, 1) := by decide +kernel
theorem dX2_greatestDigit_34 : decode cX2_greatestDigit 34 = .ok (.iconst 2, 1) := by decide +kernel
theorem dX2_greatestDigit_35 : decode cX2_greatestDigit 35 = .ok (.if_icmp .ne 5, 3) := by decide +kernel
theorem dX2_greatestDigit_38 : decode cX2_greatestDigit 38 = .ok (.iconst 1, 1) := by decide +kernel
theorem dX2_greatestDigit_39 : decode cX2_greatestDigit 39 = .ok (.ireturn, 1) := by decide +kernel
theorem dX2_greatestDigit_40 : decode cX2_greatestDigit 40 = .ok (.iload_n 2, 1) := by decide +kernel
theorem dX2_greatestDigit_41 : decode cX2_greatestDigit 41 = .ok (.iconst 1, 1) := by decide +kernel
theorem dX2_greatestDigit_42 : decode cX2_greatestDigit 42 = .ok (.if_icmp .ne 8, 3) := by decide +kernel
theorem dX2_greatestDigit_45 : decode cX2_greatestDigit 45 = .ok (.bipush 6, 2) := by decide +kernel
theorem dX2_greatestDigit_47 : decode cX2_greatestDigit 47 = .ok (.goto 5, 3) := by decide +kernel
theorem dX2_greatestDigit_50 : decode cX2_greatestDigit 50 = .ok (.bipush 9, 2) := by decide +kernel
theorem dX2_greatestDigit_52 : decode cX2_greatestDigit 52 = .ok (.ireturn, 1) := by decide +kernel
theorem dX3_init_0 : decode cX3_init 0 = .ok (.aload_n 0, 1) := by decide +kernel
theorem dX3_init_1 : decode cX3_init 1 = .ok (.invokespecial 1, 3) := by decide +kernel
theorem dX3_init_4 : decode cX3_init 4 = .ok (.aload_n 0, 1) := by decide +kernel
theorem dX3_init_5 : decode cX3_init 5 = .ok (.bipush 14, 2) := by decide +kernel
theorem dX3_init_7 : decode cX3_init 7 = .ok (.anewarray 9, 3) := by decide +kernel
theorem dX3_init_10 : decode cX3_init 10 = .ok (.putfield 11, 3) := by decide +kernel
theorem dX3_init_13 : decode cX3_init 13 = .ok (.return_, 1) := by decide +kernel
theorem dX3_isEmpty_0 : decode cX3_isEmpty 0 = .ok (.aload_n 0, 1) := by decide +kernel
theorem dX3_isEmpty_1 : decode cX3_isEmpty 1 = .ok (.getfield 15, 3) := by decide +kernel
theorem dX3_isEmpty_4 : decode cX3_isEmpty 4 = .ok (.ifCond .ne 7, 3) := by decide +kernel
theorem dX3_isEmpty_7 : decode cX3_isEmpty 7 = .ok (.iconst 1, 1) := by decide +kernel
theorem dX3_isEmpty_8 : decode cX3_isEmpty 8 = .ok (.goto 4, 3) := by decide +kernel
theorem dX3_isEmpty_11 : decode cX3_isEmpty 11 = .ok (.iconst 0, 1) := by decide +kernel
theorem dX3_isEmpty_12 : decode cX3_isEmpty 12 = .ok (.ireturn, 1) := by decide +kernel
theorem dX3_size_0 : decode cX3_size 0 = .ok (.aload_n 0, 1) := by decide +kernel
theorem dX3_size_1 : decode cX3_size 1 = .ok (.getfield 15, 3) := by decide +kernel
theorem dX3_size_4 : decode cX3_size 4 = .ok (.ireturn, 1) := by decide +kernel
theorem dX3_forgetAll_0 : decode cX3_forgetAll 0 = .ok (.aload_n 0, 1) := by decide +kernel
theorem dX3_forgetAll_1 : decode cX3_forgetAll 1 = .ok (.iconst 0, 1) := by decide +kernel
theorem dX3_forgetAll_2 : decode cX3_forgetAll 2 = .ok (.putfield 15, 3) := by decide +kernel
theorem dX3_forgetAll_5 : decode cX3_forgetAll 5 = .ok (.return_, 1) := by decide +kernel
theorem dX3_remember_0 : decode cX3_remember 0 = .ok (.aload_n 0, 1) := by decide +kernel
theorem dX3_remember_1 : decode cX3_remember 1 = .ok (.getfield 15, 3) := by decide +kernel
theorem dX3_remember_4 : decode cX3_remember 4 = .ok (.aload_n 0, 1) := by decide +kernel
theorem dX3_remember_5 : decode cX3_remember 5 = .ok (.getfield 11, 3) := by decide +kernel
theorem dX3_remember_8 : decode cX3_remember 8 = .ok (.arraylength, 1) := by decide +kernel
theorem dX3_remember_9 : decode cX3_remember 9 = .ok (.if_icmp .lt 7, 3) := by decide +kernel
theorem dX3_remember_12 : decode cX3_remember 12 = .ok (.aload_n 0, 1) := by decide +kernel
theorem dX3_remember_13 : decode cX3_remember 13 = .ok (.invokevirtual 19, 3) := by decide +kernel
theorem dX3_remember_16 : decode cX3_remember 16 = .ok (.aload_n 0, 1) := by decide +kernel
theorem dX3_remember_17 : decode cX3_remember 17 = .ok (.getfield 11, 3) := by decide +kernel
theorem dX3_remember_20 : decode cX3_remember 20 = .ok (.aload_n 0, 1) := by decide +kernel
theorem dX3_remember_21 : decode cX3_remember 21 = .ok (.getfield 15, 3) := by decide +kernel
theorem dX3_remember_24 : decode cX3_remember 24 = .ok (.aaload, 1) := by decide +kernel
theorem dX3_remember_25 : decode cX3_remember 25 = .ok (.astore_n 2, 1) := by decide +kernel
theorem dX3_remember_26 : decode cX3_remember 26 = .ok (.aload_n 2, 1) := by decide +kernel
theorem dX3_remember_27 : decode cX3_remember 27 = .ok (.ifnonnull 21, 3) := by decide +kernel
theorem dX3_remember_30 : decode cX3_remember 30 = .ok (.new 9, 3) := by decide +kernel
theorem dX3_remember_33 : decode cX3_remember 33 = .ok (.dup, 1) := by decide +kernel
theorem dX3_remember_34 : decode cX3_remember 34 = .ok (.invokespecial 22, 3) := by decide +kernel
theorem dX3_remember_37 : decode cX3_remember 37 = .ok (.astore_n 2, 1) := by decide +kernel
theorem dX3_remember_38 : decode cX3_remember 38 = .ok (.aload_n 0, 1) := by decide +kernel
theorem dX3_remember_39 : decode cX3_remember 39 = .ok (.getfield 11, 3) := by decide +kernel
theorem dX3_remember_42 : decode cX3_remember 42 = .ok (.aload_n 0, 1) := by decide +kernel
theorem dX3_remember_43 : decode cX3_remember 43 = .ok (.getfield 15, 3) := by decide +kernel
theorem dX3_remember_46 : decode cX3_remember 46 = .ok (.aload_n 2, 1) := by decide +kernel
theorem dX3_remember_47 : decode cX3_remember 47 = .ok (.aastore, 1) := by decide +kernel
theorem dX3_remember_48 : decode cX3_remember 48 = .ok (.aload_n 2, 1) := by decide +kernel
theorem dX3_remember_49 : decode cX3_remember 49 = .ok (.aload_n 1, 1) := by decide +kernel
theorem dX3_remember_50 : decode cX3_remember 50 = .ok (.invokevirtual 23, 3) := by decide +kernel
theorem dX3_remember_53 : decode cX3_remember 53 = .ok (.aload_n 0, 1) := by decide +kernel
theorem dX3_remember_54 : decode cX3_remember 54 = .ok (.dup, 1) := by decide +kernel
theorem dX3_remember_55 : decode cX3_remember 55 = .ok (.getfield 15, 3) := by decide +kernel
theorem dX3_remember_58 : decode cX3_remember 58 = .ok (.iconst 1, 1) := by decide +kernel
theorem dX3_remember_59 : decode cX3_remember 59 = .ok (.iadd, 1) := by decide +kernel
theorem dX3_remember_60 : decode cX3_remember 60 = .ok (.putfield 15, 3) := by decide +kernel
theorem dX3_remember_63 : decode cX3_remember 63 = .ok (.return_, 1) := by decide +kernel
theorem dX3_forgetOldest_0 : decode cX3_forgetOldest 0 = .ok (.aload_n 0, 1) := by decide +kernel
theorem dX3_forgetOldest_1 : decode cX3_forgetOldest 1 = .ok (.getfield 11, 3) := by decide +kernel
theorem dX3_forgetOldest_4 : decode cX3_forgetOldest 4 = .ok (.iconst 0, 1) := by decide +kernel
theorem dX3_forgetOldest_5 : decode cX3_forgetOldest 5 = .ok (.aaload, 1) := by decide +kernel
theorem dX3_forgetOldest_6 : decode cX3_forgetOldest 6 = .ok (.astore_n 1, 1) := by decide +kernel
theorem dX3_forgetOldest_7 : decode cX3_forgetOldest 7 = .ok (.iconst 1, 1) := by decide +kernel
theorem dX3_forgetOldest_8 : decode cX3_forgetOldest 8 = .ok (.istore_n 2, 1) := by decide +kernel
theorem dX3_forgetOldest_9 : decode cX3_forgetOldest 9 = .ok (.iload_n 2, 1) := by decide +kernel
theorem dX3_forgetOldest_10 : decode cX3_forgetOldest 10 = .ok (.aload_n 0, 1) := by decide +kernel
theorem dX3_forgetOldest_11 : decode cX3_forgetOldest 11 = .ok (.getfield 11, 3) := by decide +kernel
theorem dX3_forgetOldest_14 : decode cX3_forgetOldest 14 = .ok (.arraylength, 1) := by decide +kernel
theorem dX3_forgetOldest_15 : decode cX3_forgetOldest 15 = .ok (.if_icmp .ge 23, 3) := by decide +kernel
theorem dX3_forgetOldest_18 : decode cX3_forgetOldest 18 = .ok (.aload_n 0, 1) := by decide +kernel
theorem dX3_forgetOldest_19 : decode cX3_forgetOldest 19 = .ok (.getfield 11, 3) := by decide +kernel
theorem dX3_forgetOldest_22 : decode cX3_forgetOldest 22 = .ok (.iload_n 2, 1) := by decide +kernel
theorem dX3_forgetOldest_23 : decode cX3_forgetOldest 23 = .ok (.iconst 1, 1) := by decide +kernel
theorem dX3_forgetOldest_24 : decode cX3_forgetOldest 24 = .ok (.isub, 1) := by decide +kernel
theorem dX3_forgetOldest_25 : decode cX3_forgetOldest 25 = .ok (.aload_n 0, 1) := by decide +kernel
theorem dX3_forgetOldest_26 : decode cX3_forgetOldest 26 = .ok (.getfield 11, 3) := by decide +kernel
theorem dX3_forgetOldest_29 : decode cX3_forgetOldest 29 = .ok (.iload_n 2, 1) := by decide +kernel
theorem dX3_forgetOldest_30 : decode cX3_forgetOldest 30 = .ok (.aaload, 1) := by decide +kernel
theorem dX3_forgetOldest_31 : decode cX3_forgetOldest 31 = .ok (.aastore, 1) := by decide +kernel
theorem dX3_forgetOldest_32 : decode cX3_forgetOldest 32 = .ok (.iinc 2 1, 3) := by decide +kernel
theorem dX3_forgetOldest_35 : decode cX3_forgetOldest 35 = .ok (.goto (-26), 3) := by decide +kernel
theorem dX3_forgetOldest_38 : decode cX3_forgetOldest 38 = .ok (.aload_n 0, 1) := by decide +kernel
theorem dX3_forgetOldest_39 : decode cX3_forgetOldest 39 = .ok (.getfield 11, 3) := by decide +kernel
theorem dX3_forgetOldest_42 : decode cX3_forgetOldest 42 = .ok (.aload_n 0, 1) := by decide +kernel
theorem dX3_forgetOldest_43 : decode cX3_forgetOldest 43 = .ok (.getfield 11, 3) := by decide +kernel
theorem dX3_forgetOldest_46 : decode cX3_forgetOldest 46 = .ok (.arraylength, 1) := by decide +kernel
theorem dX3_forgetOldest_47 : decode cX3_forgetOldest 47 = .ok (.iconst 1, 1) := by decide +kernel
theorem dX3_forgetOldest_48 : decode cX3_forgetOldest 48 = .ok (.isub, 1) := by decide +kernel
theorem dX3_forgetOldest_49 : decode cX3_forgetOldest 49 = .ok (.aload_n 1, 1) := by decide +kernel
theorem dX3_forgetOldest_50 : decode cX3_forgetOldest 50 = .ok (.aastore, 1) := by decide +kernel
theorem dX3_forgetOldest_51 : decode cX3_forgetOldest 51 = .ok (.aload_n 0, 1) := by decide +kernel
theorem dX3_forgetOldest_52 : decode cX3_forgetOldest 52 = .ok (.aload_n 0, 1) := by decide +kernel
theorem dX3_forgetOldest_53 : decode cX3_forgetOldest 53 = .ok (.getfield 11, 3) := by decide +kernel
theorem dX3_forgetOldest_56 : decode cX3_forgetOldest 56 = .ok (.arraylength, 1) := by decide +kernel
theorem dX3_forgetOldest_57 : decode cX3_forgetOldest 57 = .ok (.iconst 1, 1) := by decide +kernel
theorem dX3_forgetOldest_58 : decode cX3_forgetOldest 58 = .ok (.isub, 1) := by decide +kernel
theorem dX3_forgetOldest_59 : decode cX3_forgetOldest 59 = .ok (.putfield 15, 3) := by decide +kernel
theorem dX3_forgetOldest_62 : decode cX3_forgetOldest 62 = .ok (.return_, 1) := by decide +kernel
theorem dX3_takeBack_0 : decode cX3_takeBack 0 = .ok (.aload_n 0, 1) := by decide +kernel
theorem dX3_takeBack_1 : decode cX3_takeBack 1 = .ok (.getfield 15, 3) := by decide +kernel
theorem dX3_takeBack_4 : decode cX3_takeBack 4 = .ok (.ifCond .gt 4, 3) := by decide +kernel
theorem dX3_takeBack_7 : decode cX3_takeBack 7 = .ok (.return_, 1) := by decide +kernel
theorem dX3_takeBack_8 : decode cX3_takeBack 8 = .ok (.aload_n 0, 1) := by decide +kernel
theorem dX3_takeBack_9 : decode cX3_takeBack 9 = .ok (.dup, 1) := by decide +kernel
theorem dX3_takeBack_10 : decode cX3_takeBack 10 = .ok (.getfield 15, 3) := by decide +kernel
theorem dX3_takeBack_13 : decode cX3_takeBack 13 = .ok (.iconst 1, 1) := by decide +kernel
theorem dX3_takeBack_14 : decode cX3_takeBack 14 = .ok (.isub, 1) := by decide +kernel
theorem dX3_takeBack_15 : decode cX3_takeBack 15 = .ok (.putfield 15, 3) := by decide +kernel
theorem dX3_takeBack_18 : decode cX3_takeBack 18 = .ok (.aload_n 0, 1) := by decide +kernel
theorem dX3_takeBack_19 : decode cX3_takeBack 19 = .ok (.getfield 11, 3) := by decide +kernel
theorem dX3_takeBack_22 : decode cX3_takeBack 22 = .ok (.aload_n 0, 1) := by decide +kernel
theorem dX3_takeBack_23 : decode cX3_takeBack 23 = .ok (.getfield 15, 3) := by decide +kernel
theorem dX3_takeBack_26 : decode cX3_takeBack 26 = .ok (.aaload, 1) := by decide +kernel
theorem dX3_takeBack_27 : decode cX3_takeBack 27 = .ok (.astore_n 2, 1) := by decide +kernel
theorem dX3_takeBack_28 : decode cX3_takeBack 28 = .ok (.aload_n 2, 1) := by decide +kernel
theorem dX3_takeBack_29 : decode cX3_takeBack 29 = .ok (.ifnull 8, 3) := by decide +kernel
theorem dX3_takeBack_32 : decode cX3_takeBack 32 = .ok (.aload_n 1, 1) := by decide +kernel
theorem dX3_takeBack_33 : decode cX3_takeBack 33 = .ok (.aload_n 2, 1) := by decide +kernel
theorem dX3_takeBack_34 : decode cX3_takeBack 34 = .ok (.invokevirtual 23, 3) := by decide +kernel
theorem dX3_takeBack_37 : decode cX3_takeBack 37 = .ok (.return_, 1) := by decide +kernel
theorem dX4_succeeds_0 : decode cX4_succeeds 0 = .ok (.iload_n 1, 1) := by decide +kernel
theorem dX4_succeeds_1 : decode cX4_succeeds 1 = .ok (.sipush 1000, 3) := by decide +kernel
theorem dX4_succeeds_4 : decode cX4_succeeds 4 = .ok (.idiv, 1) := by decide +kernel
theorem dX4_succeeds_5 : decode cX4_succeeds 5 = .ok (.bipush 10, 2) := by decide +kernel
theorem dX4_succeeds_7 : decode cX4_succeeds 7 = .ok (.irem, 1) := by decide +kernel
theorem dX4_succeeds_8 : decode cX4_succeeds 8 = .ok (.istore_n 2, 1) := by decide +kernel
theorem dX4_succeeds_9 : decode cX4_succeeds 9 = .ok (.iload_n 1, 1) := by decide +kernel
theorem dX4_succeeds_10 : decode cX4_succeeds 10 = .ok (.bipush 100, 2) := by decide +kernel
theorem dX4_succeeds_12 : decode cX4_succeeds 12 = .ok (.idiv, 1) := by decide +kernel
theorem dX4_succeeds_13 : decode cX4_succeeds 13 = .ok (.bipush 10, 2) := by decide +kernel
theorem dX4_succeeds_15 : decode cX4_succeeds 15 = .ok (.irem, 1) := by decide +kernel
theorem dX4_succeeds_16 : decode cX4_succeeds 16 = .ok (.istore_n 3, 1) := by decide +kernel
theorem dX4_succeeds_17 : decode cX4_succeeds 17 = .ok (.iload_n 1, 1) := by decide +kernel
theorem dX4_succeeds_18 : decode cX4_succeeds 18 = .ok (.bipush 10, 2) := by decide +kernel
theorem dX4_succeeds_20 : decode cX4_succeeds 20 = .ok (.idiv, 1) := by decide +kernel
theorem dX4_succeeds_21 : decode cX4_succeeds 21 = .ok (.bipush 10, 2) := by decide +kernel
theorem dX4_succeeds_23 : decode cX4_succeeds 23 = .ok (.irem, 1) := by decide +kernel
theorem dX4_succeeds_24 : decode cX4_succeeds 24 = .ok (.istore 4, 2) := by decide +kernel
theorem dX4_succeeds_26 : decode cX4_succeeds 26 = .ok (.iload_n 1, 1) := by decide +kernel
theorem dX4_succeeds_27 : decode cX4_succeeds 27 = .ok (.bipush 10, 2) := by decide +kernel
theorem dX4_succeeds_29 : decode cX4_succeeds 29 = .ok (.irem, 1) := by decide +kernel
theorem dX4_succeeds_30 : decode cX4_succeeds 30 = .ok (.istore 5, 2) := by decide +kernel
theorem dX4_succeeds_32 : decode cX4_succeeds 32 = .ok (.iload_n 1, 1) := by decide +kernel
theorem dX4_succeeds_33 : decode cX4_succeeds 33 = .ok (.sipush 10000, 3) := by decide +kernel
theorem dX4_succeeds_36 : decode cX4_succeeds 36 = .ok (.idiv, 1) := by decide +kernel
theorem dX4_succeeds_37 : decode cX4_succeeds 37 = .ok (.tableswitch 274 1 9 #[51, 71, 93, 118, 141, 164, 190, 224, 250], 51) := by decide +kernel
theorem dX4_succeeds_88 : decode cX4_succeeds 88 = .ok (.aload_n 0, 1) := by decide +kernel
theorem dX4_succeeds_89 : decode cX4_succeeds 89 = .ok (.iload_n 2, 1) := by decide +kernel
theorem dX4_succeeds_90 : decode cX4_succeeds 90 = .ok (.iload_n 3, 1) := by decide +kernel
theorem dX4_succeeds_91 : decode cX4_succeeds 91 = .ok (.iload 4, 2) := by decide +kernel
theorem dX4_succeeds_93 : decode cX4_succeeds 93 = .ok (.iload 5, 2) := by decide +kernel
theorem dX4_succeeds_95 : decode cX4_succeeds 95 = .ok (.invokevirtual 9, 3) := by decide +kernel
theorem dX4_succeeds_98 : decode cX4_succeeds 98 = .ok (.iconst (-1), 1) := by decide +kernel
theorem dX4_succeeds_99 : decode cX4_succeeds 99 = .ok (.if_icmp .eq 7, 3) := by decide +kernel
theorem dX4_succeeds_102 : decode cX4_succeeds 102 = .ok (.iconst 1, 1) := by decide +kernel
theorem dX4_succeeds_103 : decode cX4_succeeds 103 = .ok (.goto 4, 3) := by decide +kernel
theorem dX4_succeeds_106 : decode cX4_succeeds 106 = .ok (.iconst 0, 1) := by decide +kernel
theorem dX4_succeeds_107 : decode cX4_succeeds 107 = .ok (.ireturn, 1) := by decide +kernel
theorem dX4_succeeds_108 : decode cX4_succeeds 108 = .ok (.iload_n 1, 1) := by decide +kernel
theorem dX4_succeeds_109 : decode cX4_succeeds 109 = .ok (.sipush 1000, 3) := by decide +kernel
theorem dX4_succeeds_112 : decode cX4_succeeds 112 = .ok (.irem, 1) := by decide +kernel
theorem dX4_succeeds_113 : decode cX4_succeeds 113 = .ok (.ifCond .ne 15, 3) := by decide +kernel
theorem dX4_succeeds_116 : decode cX4_succeeds 116 = .ok (.aload_n 0, 1) := by decide +kernel
theorem dX4_succeeds_117 : decode cX4_succeeds 117 = .ok (.iload_n 2, 1) := by decide +kernel
theorem dX4_succeeds_118 : decode cX4_succeeds 118 = .ok (.invokevirtual 15, 3) := by decide +kernel
theorem dX4_succeeds_121 : decode cX4_succeeds 121 = .ok (.ifCond .ne 7, 3) := by decide +kernel
theorem dX4_succeeds_124 : decode cX4_succeeds 124 = .ok (.iconst 1, 1) := by decide +kernel
theorem dX4_succeeds_125 : decode cX4_succeeds 125 = .ok (.goto 4, 3) := by decide +kernel
theorem dX4_succeeds_128 : decode cX4_succeeds 128 = .ok (.iconst 0, 1) := by decide +kernel
theorem dX4_succeeds_129 : decode cX4_succeeds 129 = .ok (.ireturn, 1) := by decide +kernel
theorem dX4_succeeds_130 : decode cX4_succeeds 130 = .ok (.iload_n 1, 1) := by decide +kernel
theorem dX4_succeeds_131 : decode cX4_succeeds 131 = .ok (.sipush 10000, 3) := by decide +kernel
theorem dX4_succeeds_134 : decode cX4_succeeds 134 = .ok (.irem, 1) := by decide +kernel
theorem dX4_succeeds_135 : decode cX4_succeeds 135 = .ok (.bipush 10, 2) := by decide +kernel
theorem dX4_succeeds_137 : decode cX4_succeeds 137 = .ok (.if_icmp .ge 16, 3) := by decide +kernel
theorem dX4_succeeds_140 : decode cX4_succeeds 140 = .ok (.aload_n 0, 1) := by decide +kernel
theorem dX4_succeeds_141 : decode cX4_succeeds 141 = .ok (.iload 5, 2) := by decide +kernel
theorem dX4_succeeds_143 : decode cX4_succeeds 143 = .ok (.invokestatic 19, 3) := by decide +kernel
theorem dX4_succeeds_146 : decode cX4_succeeds 146 = .ok (.ifCond .eq 7, 3) := by decide +kernel
theorem dX4_succeeds_149 : decode cX4_succeeds 149 = .ok (.iconst 1, 1) := by decide +kernel
theorem dX4_succeeds_150 : decode cX4_succeeds 150 = .ok (.goto 4, 3) := by decide +kernel
theorem dX4_succeeds_153 : decode cX4_succeeds 153 = .ok (.iconst 0, 1) := by decide +kernel
theorem dX4_succeeds_154 : decode cX4_succeeds 154 = .ok (.ireturn, 1) := by decide +kernel
theorem dX4_succeeds_155 : decode cX4_succeeds 155 = .ok (.iload_n 1, 1) := by decide +kernel
theorem dX4_succeeds_156 : decode cX4_succeeds 156 = .ok (.sipush 1000, 3) := by decide +kernel
theorem dX4_succeeds_159 : decode cX4_succeeds 159 = .ok (.irem, 1) := by decide +kernel
theorem dX4_succeeds_160 : decode cX4_succeeds 160 = .ok (.ifCond .ne 16, 3) := by decide +kernel
theorem dX4_succeeds_163 : decode cX4_succeeds 163 = .ok (.aload_n 0, 1) := by decide +kernel
theorem dX4_succeeds_164 : decode cX4_succeeds 164 = .ok (.iload_n 2, 1) := by decide +kernel
theorem dX4_succeeds_165 : decode cX4_succeeds 165 = .ok (.invokevirtual 25, 3) := by decide +kernel
theorem dX4_succeeds_168 : decode cX4_succeeds 168 = .ok (.iconst (-1), 1) := by decide +kernel
theorem dX4_succeeds_169 : decode cX4_succeeds 169 = .ok (.if_icmp .eq 7, 3) := by decide +kernel
theorem dX4_succeeds_172 : decode cX4_succeeds 172 = .ok (.iconst 1, 1) := by decide +kernel
theorem dX4_succeeds_173 : decode cX4_succeeds 173 = .ok (.goto 4, 3) := by decide +kernel
theorem dX4_succeeds_176 : decode cX4_succeeds 176 = .ok (.iconst 0, 1) := by decide +kernel
theorem dX4_succeeds_177 : decode cX4_succeeds 177 = .ok (.ireturn, 1) := by decide +kernel
theorem dX4_succeeds_178 : decode cX4_succeeds 178 = .ok (.iload_n 3, 1) := by decide +kernel
theorem dX4_succeeds_179 : decode cX4_succeeds 179 = .ok (.ifCond .ne 20, 3) := by decide +kernel
theorem dX4_succeeds_182 : decode cX4_succeeds 182 = .ok (.aload_n 0, 1) := by decide +kernel
theorem dX4_succeeds_183 : decode cX4_succeeds 183 = .ok (.iload_n 2, 1) := by decide +kernel
theorem dX4_succeeds_184 : decode cX4_succeeds 184 = .ok (.iload_n 1, 1) := by decide +kernel
theorem dX4_succeeds_185 : decode cX4_succeeds 185 = .ok (.bipush 100, 2) := by decide +kernel
theorem dX4_succeeds_187 : decode cX4_succeeds 187 = .ok (.irem, 1) := by decide +kernel
theorem dX4_succeeds_188 : decode cX4_succeeds 188 = .ok (.invokevirtual 28, 3) := by decide +kernel
theorem dX4_succeeds_191 : decode cX4_succeeds 191 = .ok (.iconst (-1), 1) := by decide +kernel
theorem dX4_succeeds_192 : decode cX4_succeeds 192 = .ok (.if_icmp .eq 7, 3) := by decide +kernel
theorem dX4_succeeds_195 : decode cX4_succeeds 195 = .ok (.iconst 1, 1) := by decide +kernel
theorem dX4_succeeds_196 : decode cX4_succeeds 196 = .ok (.goto 4, 3) := by decide +kernel
theorem dX4_succeeds_199 : decode cX4_succeeds 199 = .ok (.iconst 0, 1) := by decide +kernel
theorem dX4_succeeds_200 : decode cX4_succeeds 200 = .ok (.ireturn, 1) := by decide +kernel
theorem dX4_succeeds_201 : decode cX4_succeeds 201 = .ok (.iload_n 1, 1) := by decide +kernel
theorem dX4_succeeds_202 : decode cX4_succeeds 202 = .ok (.sipush 1000, 3) := by decide +kernel
theorem dX4_succeeds_205 : decode cX4_succeeds 205 = .ok (.irem, 1) := by decide +kernel
theorem dX4_succeeds_206 : decode cX4_succeeds 206 = .ok (.bipush 10, 2) := by decide +kernel
theorem dX4_succeeds_208 : decode cX4_succeeds 208 = .ok (.if_icmp .ge 17, 3) := by decide +kernel
theorem dX4_succeeds_211 : decode cX4_succeeds 211 = .ok (.aload_n 0, 1) := by decide +kernel
theorem dX4_succeeds_212 : decode cX4_succeeds 212 = .ok (.iload_n 2, 1) := by decide +kernel
theorem dX4_succeeds_213 : decode cX4_succeeds 213 = .ok (.invokevirtual 32, 3) := by decide +kernel
theorem dX4_succeeds_216 : decode cX4_succeeds 216 = .ok (.iload 5, 2) := by decide +kernel
theorem dX4_succeeds_218 : decode cX4_succeeds 218 = .ok (.if_icmp .ne 7, 3) := by decide +kernel
theorem dX4_succeeds_221 : decode cX4_succeeds 221 = .ok (.iconst 1, 1) := by decide +kernel
theorem dX4_succeeds_222 : decode cX4_succeeds 222 = .ok (.goto 4, 3) := by decide +kernel
theorem dX4_succeeds_225 : decode cX4_succeeds 225 = .ok (.iconst 0, 1) := by decide +kernel
theorem dX4_succeeds_226 : decode cX4_succeeds 226 = .ok (.ireturn, 1) := by decide +kernel
theorem dX4_succeeds_227 : decode cX4_succeeds 227 = .ok (.iload_n 1, 1) := by decide +kernel
theorem dX4_succeeds_228 : decode cX4_succeeds 228 = .ok (.sipush 1000, 3) := by decide +kernel
theorem dX4_succeeds_231 : decode cX4_succeeds 231 = .ok (.irem, 1) := by decide +kernel
theorem dX4_succeeds_232 : decode cX4_succeeds 232 = .ok (.bipush 10, 2) := by decide +kernel
theorem dX4_succeeds_234 : decode cX4_succeeds 234 = .ok (.if_icmp .ge 25, 3) := by decide +kernel
theorem dX4_succeeds_237 : decode cX4_succeeds 237 = .ok (.aload_n 0, 1) := by decide +kernel
theorem dX4_succeeds_238 : decode cX4_succeeds 238 = .ok (.iload_n 2, 1) := by decide +kernel
theorem dX4_succeeds_239 : decode cX4_succeeds 239 = .ok (.invokevirtual 35, 3) := by decide +kernel
theorem dX4_succeeds_242 : decode cX4_succeeds 242 = .ok (.ifCond .eq 17, 3) := by decide +kernel
theorem dX4_succeeds_245 : decode cX4_succeeds 245 = .ok (.aload_n 0, 1) := by decide +kernel
theorem dX4_succeeds_246 : decode cX4_succeeds 246 = .ok (.iload_n 2, 1) := by decide +kernel
theorem dX4_succeeds_247 : decode cX4_succeeds 247 = .ok (.invokevirtual 39, 3) := by decide +kernel
theorem dX4_succeeds_250 : decode cX4_succeeds 250 = .ok (.iload 5, 2) := by decide +kernel
theorem dX4_succeeds_252 : decode cX4_succeeds 252 = .ok (.if_icmp .gt 7, 3) := by decide +kernel
theorem dX4_succeeds_255 : decode cX4_succeeds 255 = .ok (.iconst 1, 1) := by decide +kernel
theorem dX4_succeeds_256 : decode cX4_succeeds 256 = .ok (.goto 4, 3) := by decide +kernel
theorem dX4_succeeds_259 : decode cX4_succeeds 259 = .ok (.iconst 0, 1) := by decide +kernel
theorem dX4_succeeds_260 : decode cX4_succeeds 260 = .ok (.ireturn, 1) := by decide +kernel
theorem dX4_succeeds_261 : decode cX4_succeeds 261 = .ok (.iload_n 1, 1) := by decide +kernel
theorem dX4_succeeds_262 : decode cX4_succeeds 262 = .ok (.sipush 10000, 3) := by decide +kernel
theorem dX4_succeeds_265 : decode cX4_succeeds 265 = .ok (.irem, 1) := by decide +kernel
theorem dX4_succeeds_266 : decode cX4_succeeds 266 = .ok (.bipush 10, 2) := by decide +kernel
theorem dX4_succeeds_268 : decode cX4_succeeds 268 = .ok (.if_icmp .ge 17, 3) := by decide +kernel
theorem dX4_succeeds_271 : decode cX4_succeeds 271 = .ok (.aload_n 0, 1) := by decide +kernel
theorem dX4_succeeds_272 : decode cX4_succeeds 272 = .ok (.iconst 5, 1) := by decide +kernel
theorem dX4_succeeds_273 : decode cX4_succeeds 273 = .ok (.invokevirtual 42, 3) := by decide +kernel
theorem dX4_succeeds_276 : decode cX4_succeeds 276 = .ok (.iload 5, 2) := by decide +kernel
theorem dX4_succeeds_278 : decode cX4_succeeds 278 = .ok (.if_icmp .lt 7, 3) := by decide +kernel
theorem dX4_succeeds_281 : decode cX4_succeeds 281 = .ok (.iconst 1, 1) := by decide +kernel
theorem dX4_succeeds_282 : decode cX4_succeeds 282 = .ok (.goto 4, 3) := by decide +kernel
theorem dX4_succeeds_285 : decode cX4_succeeds 285 = .ok (.iconst 0, 1) := by decide +kernel
theorem dX4_succeeds_286 : decode cX4_succeeds 286 = .ok (.ireturn, 1) := by decide +kernel
theorem dX4_succeeds_287 : decode cX4_succeeds 287 = .ok (.iload_n 2, 1) := by decide +kernel
theorem dX4_succeeds_288 : decode cX4_succeeds 288 = .ok (.ifCond .ne 21, 3) := by decide +kernel
theorem dX4_succeeds_291 : decode cX4_succeeds 291 = .ok (.aload_n 0, 1) := by decide +kernel
theorem dX4_succeeds_292 : decode cX4_succeeds 292 = .ok (.bipush 6, 2) := by decide +kernel
theorem dX4_succeeds_294 : decode cX4_succeeds 294 = .ok (.invokevirtual 42, 3) := by decide +kernel
theorem dX4_succeeds_297 : decode cX4_succeeds 297 = .ok (.iload_n 1, 1) := by decide +kernel
theorem dX4_succeeds_298 : decode cX4_succeeds 298 = .ok (.sipush 1000, 3) := by decide +kernel
theorem dX4_succeeds_301 : decode cX4_succeeds 301 = .ok (.irem, 1) := by decide +kernel
theorem dX4_succeeds_302 : decode cX4_succeeds 302 = .ok (.if_icmp .gt 7, 3) := by decide +kernel
theorem dX4_succeeds_305 : decode cX4_succeeds 305 = .ok (.iconst 1, 1) := by decide +kernel
theorem dX4_succeeds_306 : decode cX4_succeeds 306 = .ok (.goto 4, 3) := by decide +kernel
theorem dX4_succeeds_309 : decode cX4_succeeds 309 = .ok (.iconst 0, 1) := by decide +kernel
theorem dX4_succeeds_310 : decode cX4_succeeds 310 = .ok (.ireturn, 1) := by decide +kernel
theorem dX4_succeeds_311 : decode cX4_succeeds 311 = .ok (.iconst 0, 1) := by decide +kernel
theorem dX4_succeeds_312 : decode cX4_succeeds 312 = .ok (.ireturn, 1) := by decide +kernel
theorem dX4_restTimes_0 : decode cX4_restTimes 0 = .ok (.iconst 0, 1) := by decide +kernel
theorem dX4_restTimes_1 : decode cX4_restTimes 1 = .ok (.istore_n 2, 1) := by decide +kernel
theorem dX4_restTimes_2 : decode cX4_restTimes 2 = .ok (.iload_n 2, 1) := by decide +kernel
theorem dX4_restTimes_3 : decode cX4_restTimes 3 = .ok (.iload_n 1, 1) := by decide +kernel
theorem dX4_restTimes_4 : decode cX4_restTimes 4 = .ok (.if_icmp .ge 13, 3) := by decide +kernel
theorem dX4_restTimes_7 : decode cX4_restTimes 7 = .ok (.aload_n 0, 1) := by decide +kernel
theorem dX4_restTimes_8 : decode cX4_restTimes 8 = .ok (.invokevirtual 45, 3) := by decide +kernel
theorem dX4_restTimes_11 : decode cX4_restTimes 11 = .ok (.iinc 2 1, 3) := by decide +kernel
theorem dX4_restTimes_14 : decode cX4_restTimes 14 = .ok (.goto (-12), 3) := by decide +kernel
theorem dX4_restTimes_17 : decode cX4_restTimes 17 = .ok (.iconst 1, 1) := by decide +kernel
theorem dX4_restTimes_18 : decode cX4_restTimes 18 = .ok (.ireturn, 1) := by decide +kernel
theorem dX5_init_0 : decode cX5_init 0 = .ok (.aload_n 0, 1) := by decide +kernel
theorem dX5_init_1 : decode cX5_init 1 = .ok (.invokespecial 3, 3) := by decide +kernel
theorem dX5_init_4 : decode cX5_init 4 = .ok (.aload_n 0, 1) := by decide +kernel
theorem dX5_init_5 : decode cX5_init 5 = .ok (.new 9, 3) := by decide +kernel
theorem dX5_init_8 : decode cX5_init 8 = .ok (.dup, 1) := by decide +kernel
theorem dX5_init_9 : decode cX5_init 9 = .ok (.invokespecial 11, 3) := by decide +kernel
theorem dX5_init_12 : decode cX5_init 12 = .ok (.putfield 12, 3) := by decide +kernel
theorem dX5_init_15 : decode cX5_init 15 = .ok (.aload_n 0, 1) := by decide +kernel
theorem dX5_init_16 : decode cX5_init 16 = .ok (.sipush 341, 3) := by decide +kernel
theorem dX5_init_19 : decode cX5_init 19 = .ok (.newarray .int, 2) := by decide +kernel
theorem dX5_init_21 : decode cX5_init 21 = .ok (.putfield 18, 3) := by decide +kernel
theorem dX5_init_24 : decode cX5_init 24 = .ok (.aload_n 0, 1) := by decide +kernel
theorem dX5_init_25 : decode cX5_init 25 = .ok (.sipush 341, 3) := by decide +kernel
theorem dX5_init_28 : decode cX5_init 28 = .ok (.newarray .int, 2) := by decide +kernel
theorem dX5_init_30 : decode cX5_init 30 = .ok (.putfield 22, 3) := by decide +kernel
theorem dX5_init_33 : decode cX5_init 33 = .ok (.return_, 1) := by decide +kernel
theorem dX5_fewestByRows_0 : decode cX5_fewestByRows 0 = .ok (.aload_n 0, 1) := by decide +kernel
theorem dX5_fewestByRows_1 : decode cX5_fewestByRows 1 = .ok (.getfield 12, 3) := by decide +kernel
theorem dX5_fewestByRows_4 : decode cX5_fewestByRows 4 = .ok (.aload_n 1, 1) := by decide +kernel
theorem dX5_fewestByRows_5 : decode cX5_fewestByRows 5 = .ok (.invokevirtual 25, 3) := by decide +kernel
theorem dX5_fewestByRows_8 : decode cX5_fewestByRows 8 = .ok (.aload_n 0, 1) := by decide +kernel
theorem dX5_fewestByRows_9 : decode cX5_fewestByRows 9 = .ok (.getfield 12, 3) := by decide +kernel
theorem dX5_fewestByRows_12 : decode cX5_fewestByRows 12 = .ok (.invokevirtual 29, 3) := by decide +kernel
theorem dX5_fewestByRows_15 : decode cX5_fewestByRows 15 = .ok (.istore_n 2, 1) := by decide +kernel
theorem dX5_fewestByRows_16 : decode cX5_fewestByRows 16 = .ok (.iconst 0, 1) := by decide +kernel
theorem dX5_fewestByRows_17 : decode cX5_fewestByRows 17 = .ok (.istore_n 3, 1) := by decide +kernel
theorem dX5_fewestByRows_18 : decode cX5_fewestByRows 18 = .ok (.iload_n 3, 1) := by decide +kernel
theorem dX5_fewestByRows_19 : decode cX5_fewestByRows 19 = .ok (.iconst 5, 1) := by decide +kernel
theorem dX5_fewestByRows_20 : decode cX5_fewestByRows 20 = .ok (.if_icmp .gt 23, 3) := by decide +kernel
theorem dX5_fewestByRows_23 : decode cX5_fewestByRows 23 = .ok (.aload_n 0, 1) := by decide +kernel
theorem dX5_fewestByRows_24 : decode cX5_fewestByRows 24 = .ok (.getfield 12, 3) := by decide +kernel
theorem dX5_fewestByRows_27 : decode cX5_fewestByRows 27 = .ok (.iload_n 2, 1) := by decide +kernel
theorem dX5_fewestByRows_28 : decode cX5_fewestByRows 28 = .ok (.iload_n 3, 1) := by decide +kernel
theorem dX5_fewestByRows_29 : decode cX5_fewestByRows 29 = .ok (.invokestatic 33, 3) := by decide +kernel
theorem dX5_fewestByRows_32 : decode cX5_fewestByRows 32 = .ok (.ifCond .eq 5, 3) := by decide +kernel
theorem dX5_fewestByRows_35 : decode cX5_fewestByRows 35 = .ok (.iload_n 3, 1) := by decide +kernel
theorem dX5_fewestByRows_36 : decode cX5_fewestByRows 36 = .ok (.ireturn, 1) := by decide +kernel
theorem dX5_fewestByRows_37 : decode cX5_fewestByRows 37 = .ok (.iinc 3 1, 3) := by decide +kernel
theorem dX5_fewestByRows_40 : decode cX5_fewestByRows 40 = .ok (.goto (-22), 3) := by decide +kernel
theorem dX5_fewestByRows_43 : decode cX5_fewestByRows 43 = .ok (.iconst (-1), 1) := by decide +kernel
theorem dX5_fewestByRows_44 : decode cX5_fewestByRows 44 = .ok (.ireturn, 1) := by decide +kernel
theorem dX5_aRowBringsAllHome_0 : decode cX5_aRowBringsAllHome 0 = .ok (.aload_n 0, 1) := by decide +kernel
theorem dX5_aRowBringsAllHome_1 : decode cX5_aRowBringsAllHome 1 = .ok (.iload_n 1, 1) := by decide +kernel
theorem dX5_aRowBringsAllHome_2 : decode cX5_aRowBringsAllHome 2 = .ok (.invokevirtual 37, 3) := by decide +kernel
theorem dX5_aRowBringsAllHome_5 : decode cX5_aRowBringsAllHome 5 = .ok (.iload_n 2, 1) := by decide +kernel
theorem dX5_aRowBringsAllHome_6 : decode cX5_aRowBringsAllHome 6 = .ok (.ifCond .le 8, 3) := by decide +kernel
theorem dX5_aRowBringsAllHome_9 : decode cX5_aRowBringsAllHome 9 = .ok (.iload_n 2, 1) := by decide +kernel
theorem dX5_aRowBringsAllHome_10 : decode cX5_aRowBringsAllHome 10 = .ok (.iconst 5, 1) := by decide +kernel
theorem dX5_aRowBringsAllHome_11 : decode cX5_aRowBringsAllHome 11 = .ok (.if_icmp .le 20, 3) := by decide +kernel
theorem dX5_aRowBringsAllHome_14 : decode cX5_aRowBringsAllHome 14 = .ok (.iload_n 2, 1) := by decide +kernel
theorem dX5_aRowBringsAllHome_15 : decode cX5_aRowBringsAllHome 15 = .ok (.ifCond .ne 14, 3) := by decide +kernel
theorem dX5_aRowBringsAllHome_18 : decode cX5_aRowBringsAllHome 18 = .ok (.aload_n 0, 1) := by decide +kernel
theorem dX5_aRowBringsAllHome_19 : decode cX5_aRowBringsAllHome 19 = .ok (.invokevirtual 41, 3) := by decide +kernel
theorem dX5_aRowBringsAllHome_22 : decode cX5_aRowBringsAllHome 22 = .ok (.ifCond .eq 7, 3) := by decide +kernel
theorem dX5_aRowBringsAllHome_25 : decode cX5_aRowBringsAllHome 25 = .ok (.iconst 1, 1) := by decide +kernel
theorem dX5_aRowBringsAllHome_26 : decode cX5_aRowBringsAllHome 26 = .ok (.goto 4, 3) := by decide +kernel
theorem dX5_aRowBringsAllHome_29 : decode cX5_aRowBringsAllHome 29 = .ok (.iconst 0, 1) := by decide +kernel
theorem dX5_aRowBringsAllHome_30 : decode cX5_aRowBringsAllHome 30 = .ok (.ireturn, 1) := by decide +kernel
theorem dX5_aRowBringsAllHome_31 : decode cX5_aRowBringsAllHome 31 = .ok (.iconst 0, 1) := by decide +kernel
theorem dX5_aRowBringsAllHome_32 : decode cX5_aRowBringsAllHome 32 = .ok (.istore_n 3, 1) := by decide +kernel
theorem dX5_aRowBringsAllHome_33 : decode cX5_aRowBringsAllHome 33 = .ok (.iload_n 3, 1) := by decide +kernel
theorem dX5_aRowBringsAllHome_34 : decode cX5_aRowBringsAllHome 34 = .ok (.aload_n 0, 1) := by decide +kernel
theorem dX5_aRowBringsAllHome_35 : decode cX5_aRowBringsAllHome 35 = .ok (.invokevirtual 45, 3) := by decide +kernel
theorem dX5_aRowBringsAllHome_38 : decode cX5_aRowBringsAllHome 38 = .ok (.if_icmp .ge 38, 3) := by decide +kernel
theorem dX5_aRowBringsAllHome_41 : decode cX5_aRowBringsAllHome 41 = .ok (.aload_n 0, 1) := by decide +kernel
theorem dX5_aRowBringsAllHome_42 : decode cX5_aRowBringsAllHome 42 = .ok (.iload_n 1, 1) := by decide +kernel
theorem dX5_aRowBringsAllHome_43 : decode cX5_aRowBringsAllHome 43 = .ok (.invokevirtual 37, 3) := by decide +kernel
theorem dX5_aRowBringsAllHome_46 : decode cX5_aRowBringsAllHome 46 = .ok (.aload_n 0, 1) := by decide +kernel
theorem dX5_aRowBringsAllHome_47 : decode cX5_aRowBringsAllHome 47 = .ok (.iload_n 3, 1) := by decide +kernel
theorem dX5_aRowBringsAllHome_48 : decode cX5_aRowBringsAllHome 48 = .ok (.invokevirtual 48, 3) := by decide +kernel
theorem dX5_aRowBringsAllHome_51 : decode cX5_aRowBringsAllHome 51 = .ok (.ifCond .eq 19, 3) := by decide +kernel
theorem dX5_aRowBringsAllHome_54 : decode cX5_aRowBringsAllHome 54 = .ok (.aload_n 0, 1) := by decide +kernel
theorem dX5_aRowBringsAllHome_55 : decode cX5_aRowBringsAllHome 55 = .ok (.aload_n 0, 1) := by decide +kernel
theorem dX5_aRowBringsAllHome_56 : decode cX5_aRowBringsAllHome 56 = .ok (.invokevirtual 29, 3) := by decide +kernel
theorem dX5_aRowBringsAllHome_59 : decode cX5_aRowBringsAllHome 59 = .ok (.iload_n 2, 1) := by decide +kernel
theorem dX5_aRowBringsAllHome_60 : decode cX5_aRowBringsAllHome 60 = .ok (.iconst 1, 1) := by decide +kernel
theorem dX5_aRowBringsAllHome_61 : decode cX5_aRowBringsAllHome 61 = .ok (.isub, 1) := by decide +kernel
theorem dX5_aRowBringsAllHome_62 : decode cX5_aRowBringsAllHome 62 = .ok (.invokestatic 33, 3) := by decide +kernel
theorem dX5_aRowBringsAllHome_65 : decode cX5_aRowBringsAllHome 65 = .ok (.ifCond .eq 5, 3) := by decide +kernel
theorem dX5_aRowBringsAllHome_68 : decode cX5_aRowBringsAllHome 68 = .ok (.iconst 1, 1) := by decide +kernel
theorem dX5_aRowBringsAllHome_69 : decode cX5_aRowBringsAllHome 69 = .ok (.ireturn, 1) := by decide +kernel
theorem dX5_aRowBringsAllHome_70 : decode cX5_aRowBringsAllHome 70 = .ok (.iinc 3 1, 3) := by decide +kernel
theorem dX5_aRowBringsAllHome_73 : decode cX5_aRowBringsAllHome 73 = .ok (.goto (-40), 3) := by decide +kernel
theorem dX5_aRowBringsAllHome_76 : decode cX5_aRowBringsAllHome 76 = .ok (.iconst 0, 1) := by decide +kernel
theorem dX5_aRowBringsAllHome_77 : decode cX5_aRowBringsAllHome 77 = .ok (.ireturn, 1) := by decide +kernel
theorem dX5_fewestByPositions_0 : decode cX5_fewestByPositions 0 = .ok (.aload_n 0, 1) := by decide +kernel
theorem dX5_fewestByPositions_1 : decode cX5_fewestByPositions 1 = .ok (.getfield 12, 3) := by decide +kernel
theorem dX5_fewestByPositions_4 : decode cX5_fewestByPositions 4 = .ok (.aload_n 1, 1) := by decide +kernel
theorem dX5_fewestByPositions_5 : decode cX5_fewestByPositions 5 = .ok (.invokevirtual 25, 3) := by decide +kernel
theorem dX5_fewestByPositions_8 : decode cX5_fewestByPositions 8 = .ok (.aload_n 0, 1) := by decide +kernel
theorem dX5_fewestByPositions_9 : decode cX5_fewestByPositions 9 = .ok (.getfield 12, 3) := by decide +kernel
theorem dX5_fewestByPositions_12 : decode cX5_fewestByPositions 12 = .ok (.invokevirtual 41, 3) := by decide +kernel
theorem dX5_fewestByPositions_15 : decode cX5_fewestByPositions 15 = .ok (.ifCond .eq 5, 3) := by decide +kernel
theorem dX5_fewestByPositions_18 : decode cX5_fewestByPositions 18 = .ok (.iconst 0, 1) := by decide +kernel
theorem dX5_fewestByPositions_19 : decode cX5_fewestByPositions 19 = .ok (.ireturn, 1) := by decide +kernel
theorem dX5_fewestByPositions_20 : decode cX5_fewestByPositions 20 = .ok (.aload_n 0, 1) := by decide +kernel
theorem dX5_fewestByPositions_21 : decode cX5_fewestByPositions 21 = .ok (.iconst 0, 1) := by decide +kernel
theorem dX5_fewestByPositions_22 : decode cX5_fewestByPositions 22 = .ok (.putfield 52, 3) := by decide +kernel
theorem dX5_fewestByPositions_25 : decode cX5_fewestByPositions 25 = .ok (.aload_n 0, 1) := by decide +kernel
theorem dX5_fewestByPositions_26 : decode cX5_fewestByPositions 26 = .ok (.aload_n 0, 1) := by decide +kernel
theorem dX5_fewestByPositions_27 : decode cX5_fewestByPositions 27 = .ok (.getfield 12, 3) := by decide +kernel
theorem dX5_fewestByPositions_30 : decode cX5_fewestByPositions 30 = .ok (.invokevirtual 29, 3) := by decide +kernel
theorem dX5_fewestByPositions_33 : decode cX5_fewestByPositions 33 = .ok (.iconst 0, 1) := by decide +kernel
theorem dX5_fewestByPositions_34 : decode cX5_fewestByPositions 34 = .ok (.invokevirtual 56, 3) := by decide +kernel
theorem dX5_fewestByPositions_37 : decode cX5_fewestByPositions 37 = .ok (.iconst 0, 1) := by decide +kernel
theorem dX5_fewestByPositions_38 : decode cX5_fewestByPositions 38 = .ok (.istore_n 2, 1) := by decide +kernel
theorem dX5_fewestByPositions_39 : decode cX5_fewestByPositions 39 = .ok (.iload_n 2, 1) := by decide +kernel
theorem dX5_fewestByPositions_40 : decode cX5_fewestByPositions 40 = .ok (.aload_n 0, 1) := by decide +kernel
theorem dX5_fewestByPositions_41 : decode cX5_fewestByPositions 41 = .ok (.getfield 52, 3) := by decide +kernel
theorem dX5_fewestByPositions_44 : decode cX5_fewestByPositions 44 = .ok (.if_icmp .ge 103, 3) := by decide +kernel
theorem dX5_fewestByPositions_47 : decode cX5_fewestByPositions 47 = .ok (.iload_n 2, 1) := by decide +kernel
theorem dX5_fewestByPositions_48 : decode cX5_fewestByPositions 48 = .ok (.sipush 341, 3) := by decide +kernel
theorem dX5_fewestByPositions_51 : decode cX5_fewestByPositions 51 = .ok (.if_icmp .ge 96, 3) := by decide +kernel
theorem dX5_fewestByPositions_54 : decode cX5_fewestByPositions 54 = .ok (.aload_n 0, 1) := by decide +kernel
theorem dX5_fewestByPositions_55 : decode cX5_fewestByPositions 55 = .ok (.getfield 22, 3) := by decide +kernel
theorem dX5_fewestByPositions_58 : decode cX5_fewestByPositions 58 = .ok (.iload_n 2, 1) := by decide +kernel
theorem dX5_fewestByPositions_59 : decode cX5_fewestByPositions 59 = .ok (.iaload, 1) := by decide +kernel
theorem dX5_fewestByPositions_60 : decode cX5_fewestByPositions 60 = .ok (.iconst 1, 1) := by decide +kernel
theorem dX5_fewestByPositions_61 : decode cX5_fewestByPositions 61 = .ok (.iadd, 1) := by decide +kernel
theorem dX5_fewestByPositions_62 : decode cX5_fewestByPositions 62 = .ok (.istore_n 3, 1) := by decide +kernel
theorem dX5_fewestByPositions_63 : decode cX5_fewestByPositions 63 = .ok (.iconst 0, 1) := by decide +kernel
theorem dX5_fewestByPositions_64 : decode cX5_fewestByPositions 64 = .ok (.istore 4, 2) := by decide +kernel
theorem dX5_fewestByPositions_66 : decode cX5_fewestByPositions 66 = .ok (.iload 4, 2) := by decide +kernel
theorem dX5_fewestByPositions_68 : decode cX5_fewestByPositions 68 = .ok (.aload_n 0, 1) := by decide +kernel
theorem dX5_fewestByPositions_69 : decode cX5_fewestByPositions 69 = .ok (.getfield 12, 3) := by decide +kernel
theorem dX5_fewestByPositions_72 : decode cX5_fewestByPositions 72 = .ok (.invokevirtual 45, 3) := by decide +kernel
theorem dX5_fewestByPositions_75 : decode cX5_fewestByPositions 75 = .ok (.if_icmp .ge 66, 3) := by decide +kernel
theorem dX5_fewestByPositions_78 : decode cX5_fewestByPositions 78 = .ok (.aload_n 0, 1) := by decide +kernel
theorem dX5_fewestByPositions_79 : decode cX5_fewestByPositions 79 = .ok (.getfield 12, 3) := by decide +kernel
theorem dX5_fewestByPositions_82 : decode cX5_fewestByPositions 82 = .ok (.aload_n 0, 1) := by decide +kernel
theorem dX5_fewestByPositions_83 : decode cX5_fewestByPositions 83 = .ok (.getfield 18, 3) := by decide +kernel
theorem dX5_fewestByPositions_86 : decode cX5_fewestByPositions 86 = .ok (.iload_n 2, 1) := by decide +kernel
theorem dX5_fewestByPositions_87 : decode cX5_fewestByPositions 87 = .ok (.iaload, 1) := by decide +kernel
theorem dX5_fewestByPositions_88 : decode cX5_fewestByPositions 88 = .ok (.invokevirtual 37, 3) := by decide +kernel
theorem dX5_fewestByPositions_91 : decode cX5_fewestByPositions 91 = .ok (.aload_n 0, 1) := by decide +kernel
theorem dX5_fewestByPositions_92 : decode cX5_fewestByPositions 92 = .ok (.getfield 12, 3) := by decide +kernel
theorem dX5_fewestByPositions_95 : decode cX5_fewestByPositions 95 = .ok (.iload 4, 2) := by decide +kernel
theorem dX5_fewestByPositions_97 : decode cX5_fewestByPositions 97 = .ok (.invokevirtual 48, 3) := by decide +kernel
theorem dX5_fewestByPositions_100 : decode cX5_fewestByPositions 100 = .ok (.ifCond .ne 6, 3) := by decide +kernel
theorem dX5_fewestByPositions_103 : decode cX5_fewestByPositions 103 = .ok (.goto 32, 3) := by decide +kernel
theorem dX5_fewestByPositions_106 : decode cX5_fewestByPositions 106 = .ok (.aload_n 0, 1) := by decide +kernel
theorem dX5_fewestByPositions_107 : decode cX5_fewestByPositions 107 = .ok (.getfield 12, 3) := by decide +kernel
theorem dX5_fewestByPositions_110 : decode cX5_fewestByPositions 110 = .ok (.invokevirtual 41, 3) := by decide +kernel
theorem dX5_fewestByPositions_113 : decode cX5_fewestByPositions 113 = .ok (.ifCond .eq 5, 3) := by decide +kernel
theorem dX5_fewestByPositions_116 : decode cX5_fewestByPositions 116 = .ok (.iload_n 3, 1) := by decide +kernel
theorem dX5_fewestByPositions_117 : decode cX5_fewestByPositions 117 = .ok (.ireturn, 1) := by decide +kernel
theorem dX5_fewestByPositions_118 : decode cX5_fewestByPositions 118 = .ok (.iload_n 3, 1) := by decide +kernel
theorem dX5_fewestByPositions_119 : decode cX5_fewestByPositions 119 = .ok (.iconst 5, 1) := by decide +kernel
theorem dX5_fewestByPositions_120 : decode cX5_fewestByPositions 120 = .ok (.if_icmp .ge 15, 3) := by decide +kernel
theorem dX5_fewestByPositions_123 : decode cX5_fewestByPositions 123 = .ok (.aload_n 0, 1) := by decide +kernel
theorem dX5_fewestByPositions_124 : decode cX5_fewestByPositions 124 = .ok (.aload_n 0, 1) := by decide +kernel
theorem dX5_fewestByPositions_125 : decode cX5_fewestByPositions 125 = .ok (.getfield 12, 3) := by decide +kernel
theorem dX5_fewestByPositions_128 : decode cX5_fewestByPositions 128 = .ok (.invokevirtual 29, 3) := by decide +kernel
theorem dX5_fewestByPositions_131 : decode cX5_fewestByPositions 131 = .ok (.iload_n 3, 1) := by decide +kernel
theorem dX5_fewestByPositions_132 : decode cX5_fewestByPositions 132 = .ok (.invokevirtual 56, 3) := by decide +kernel
theorem dX5_fewestByPositions_135 : decode cX5_fewestByPositions 135 = .ok (.iinc 4 1, 3) := by decide +kernel
theorem dX5_fewestByPositions_138 : decode cX5_fewestByPositions 138 = .ok (.goto (-72), 3) := by decide +kernel
theorem dX5_fewestByPositions_141 : decode cX5_fewestByPositions 141 = .ok (.iinc 2 1, 3) := by decide +kernel
theorem dX5_fewestByPositions_144 : decode cX5_fewestByPositions 144 = .ok (.goto (-105), 3) := by decide +kernel
theorem dX5_fewestByPositions_147 : decode cX5_fewestByPositions 147 = .ok (.iconst (-1), 1) := by decide +kernel
theorem dX5_fewestByPositions_148 : decode cX5_fewestByPositions 148 = .ok (.ireturn, 1) := by decide +kernel
theorem dX5_keepIfNew_0 : decode cX5_keepIfNew 0 = .ok (.iconst 0, 1) := by decide +kernel
theorem dX5_keepIfNew_1 : decode cX5_keepIfNew 1 = .ok (.istore_n 3, 1) := by decide +kernel
theorem dX5_keepIfNew_2 : decode cX5_keepIfNew 2 = .ok (.iload_n 3, 1) := by decide +kernel
theorem dX5_keepIfNew_3 : decode cX5_keepIfNew 3 = .ok (.aload_n 0, 1) := by decide +kernel
theorem dX5_keepIfNew_4 : decode cX5_keepIfNew 4 = .ok (.getfield 52, 3) := by decide +kernel
theorem dX5_keepIfNew_7 : decode cX5_keepIfNew 7 = .ok (.if_icmp .ge 27, 3) := by decide +kernel
theorem dX5_keepIfNew_10 : decode cX5_keepIfNew 10 = .ok (.iload_n 3, 1) := by decide +kernel
theorem dX5_keepIfNew_11 : decode cX5_keepIfNew 11 = .ok (.sipush 341, 3) := by decide +kernel
theorem dX5_keepIfNew_14 : decode cX5_keepIfNew 14 = .ok (.if_icmp .ge 20, 3) := by decide +kernel
theorem dX5_keepIfNew_17 : decode cX5_keepIfNew 17 = .ok (.aload_n 0, 1) := by decide +kernel
theorem dX5_keepIfNew_18 : decode cX5_keepIfNew 18 = .ok (.getfield 18, 3) := by decide +kernel
theorem dX5_keepIfNew_21 : decode cX5_keepIfNew 21 = .ok (.iload_n 3, 1) := by decide +kernel
theorem dX5_keepIfNew_22 : decode cX5_keepIfNew 22 = .ok (.iaload, 1) := by decide +kernel
theorem dX5_keepIfNew_23 : decode cX5_keepIfNew 23 = .ok (.iload_n 1, 1) := by decide +kernel
theorem dX5_keepIfNew_24 : decode cX5_keepIfNew 24 = .ok (.if_icmp .ne 4, 3) := by decide +kernel
theorem dX5_keepIfNew_27 : decode cX5_keepIfNew 27 = .ok (.return_, 1) := by decide +kernel
theorem dX5_keepIfNew_28 : decode cX5_keepIfNew 28 = .ok (.iinc 3 1, 3) := by decide +kernel
theorem dX5_keepIfNew_31 : decode cX5_keepIfNew 31 = .ok (.goto (-29), 3) := by decide +kernel
theorem dX5_keepIfNew_34 : decode cX5_keepIfNew 34 = .ok (.aload_n 0, 1) := by decide +kernel
theorem dX5_keepIfNew_35 : decode cX5_keepIfNew 35 = .ok (.getfield 52, 3) := by decide +kernel
theorem dX5_keepIfNew_38 : decode cX5_keepIfNew 38 = .ok (.sipush 341, 3) := by decide +kernel
theorem dX5_keepIfNew_41 : decode cX5_keepIfNew 41 = .ok (.if_icmp .ge 33, 3) := by decide +kernel
theorem dX5_keepIfNew_44 : decode cX5_keepIfNew 44 = .ok (.aload_n 0, 1) := by decide +kernel
theorem dX5_keepIfNew_45 : decode cX5_keepIfNew 45 = .ok (.getfield 18, 3) := by decide +kernel
theorem dX5_keepIfNew_48 : decode cX5_keepIfNew 48 = .ok (.aload_n 0, 1) := by decide +kernel
theorem dX5_keepIfNew_49 : decode cX5_keepIfNew 49 = .ok (.getfield 52, 3) := by decide +kernel
theorem dX5_keepIfNew_52 : decode cX5_keepIfNew 52 = .ok (.iload_n 1, 1) := by decide +kernel
theorem dX5_keepIfNew_53 : decode cX5_keepIfNew 53 = .ok (.iastore, 1) := by decide +kernel
theorem dX5_keepIfNew_54 : decode cX5_keepIfNew 54 = .ok (.aload_n 0, 1) := by decide +kernel
theorem dX5_keepIfNew_55 : decode cX5_keepIfNew 55 = .ok (.getfield 22, 3) := by decide +kernel
theorem dX5_keepIfNew_58 : decode cX5_keepIfNew 58 = .ok (.aload_n 0, 1) := by decide +kernel
theorem dX5_keepIfNew_59 : decode cX5_keepIfNew 59 = .ok (.getfield 52, 3) := by decide +kernel
theorem dX5_keepIfNew_62 : decode cX5_keepIfNew 62 = .ok (.iload_n 2, 1) := by decide +kernel
theorem dX5_keepIfNew_63 : decode cX5_keepIfNew 63 = .ok (.iastore, 1) := by decide +kernel
theorem dX5_keepIfNew_64 : decode cX5_keepIfNew 64 = .ok (.aload_n 0, 1) := by decide +kernel
theorem dX5_keepIfNew_65 : decode cX5_keepIfNew 65 = .ok (.dup, 1) := by decide +kernel
theorem dX5_keepIfNew_66 : decode cX5_keepIfNew 66 = .ok (.getfield 52, 3) := by decide +kernel
theorem dX5_keepIfNew_69 : decode cX5_keepIfNew 69 = .ok (.iconst 1, 1) := by decide +kernel
theorem dX5_keepIfNew_70 : decode cX5_keepIfNew 70 = .ok (.iadd, 1) := by decide +kernel
theorem dX5_keepIfNew_71 : decode cX5_keepIfNew 71 = .ok (.putfield 52, 3) := by decide +kernel
theorem dX5_keepIfNew_74 : decode cX5_keepIfNew 74 = .ok (.return_, 1) := by decide +kernel
theorem dX5_bestPress_0 : decode cX5_bestPress 0 = .ok (.aload_n 0, 1) := by decide +kernel
theorem dX5_bestPress_1 : decode cX5_bestPress 1 = .ok (.aload_n 1, 1) := by decide +kernel
theorem dX5_bestPress_2 : decode cX5_bestPress 2 = .ok (.invokevirtual 60, 3) := by decide +kernel
theorem dX5_bestPress_5 : decode cX5_bestPress 5 = .ok (.istore_n 2, 1) := by decide +kernel
theorem dX5_bestPress_6 : decode cX5_bestPress 6 = .ok (.iload_n 2, 1) := by decide +kernel
theorem dX5_bestPress_7 : decode cX5_bestPress 7 = .ok (.ifCond .gt 5, 3) := by decide +kernel
theorem dX5_bestPress_10 : decode cX5_bestPress 10 = .ok (.iconst (-1), 1) := by decide +kernel
theorem dX5_bestPress_11 : decode cX5_bestPress 11 = .ok (.ireturn, 1) := by decide +kernel
theorem dX5_bestPress_12 : decode cX5_bestPress 12 = .ok (.aload_n 0, 1) := by decide +kernel
theorem dX5_bestPress_13 : decode cX5_bestPress 13 = .ok (.getfield 12, 3) := by decide +kernel
theorem dX5_bestPress_16 : decode cX5_bestPress 16 = .ok (.aload_n 1, 1) := by decide +kernel
theorem dX5_bestPress_17 : decode cX5_bestPress 17 = .ok (.invokevirtual 25, 3) := by decide +kernel
theorem dX5_bestPress_20 : decode cX5_bestPress 20 = .ok (.aload_n 0, 1) := by decide +kernel
theorem dX5_bestPress_21 : decode cX5_bestPress 21 = .ok (.getfield 12, 3) := by decide +kernel
theorem dX5_bestPress_24 : decode cX5_bestPress 24 = .ok (.invokevirtual 29, 3) := by decide +kernel
theorem dX5_bestPress_27 : decode cX5_bestPress 27 = .ok (.istore_n 3, 1) := by decide +kernel
theorem dX5_bestPress_28 : decode cX5_bestPress 28 = .ok (.iconst 0, 1) := by decide +kernel
theorem dX5_bestPress_29 : decode cX5_bestPress 29 = .ok (.istore 4, 2) := by decide +kernel
theorem dX5_bestPress_31 : decode cX5_bestPress 31 = .ok (.iload 4, 2) := by decide +kernel
theorem dX5_bestPress_33 : decode cX5_bestPress 33 = .ok (.aload_n 0, 1) := by decide +kernel
theorem dX5_bestPress_34 : decode cX5_bestPress 34 = .ok (.getfield 12, 3) := by decide +kernel
theorem dX5_bestPress_37 : decode cX5_bestPress 37 = .ok (.invokevirtual 45, 3) := by decide +kernel
theorem dX5_bestPress_40 : decode cX5_bestPress 40 = .ok (.if_icmp .ge 52, 3) := by decide +kernel
theorem dX5_bestPress_43 : decode cX5_bestPress 43 = .ok (.aload_n 0, 1) := by decide +kernel
theorem dX5_bestPress_44 : decode cX5_bestPress 44 = .ok (.getfield 12, 3) := by decide +kernel
theorem dX5_bestPress_47 : decode cX5_bestPress 47 = .ok (.iload_n 3, 1) := by decide +kernel
theorem dX5_bestPress_48 : decode cX5_bestPress 48 = .ok (.invokevirtual 37, 3) := by decide +kernel
theorem dX5_bestPress_51 : decode cX5_bestPress 51 = .ok (.aload_n 0, 1) := by decide +kernel
theorem dX5_bestPress_52 : decode cX5_bestPress 52 = .ok (.getfield 12, 3) := by decide +kernel
theorem dX5_bestPress_55 : decode cX5_bestPress 55 = .ok (.iload 4, 2) := by decide +kernel
theorem dX5_bestPress_57 : decode cX5_bestPress 57 = .ok (.invokevirtual 48, 3) := by decide +kernel
theorem dX5_bestPress_60 : decode cX5_bestPress 60 = .ok (.ifCond .eq 26, 3) := by decide +kernel
theorem dX5_bestPress_63 : decode cX5_bestPress 63 = .ok (.aload_n 0, 1) := by decide +kernel
theorem dX5_bestPress_64 : decode cX5_bestPress 64 = .ok (.getfield 12, 3) := by decide +kernel
theorem dX5_bestPress_67 : decode cX5_bestPress 67 = .ok (.aload_n 0, 1) := by decide +kernel
theorem dX5_bestPress_68 : decode cX5_bestPress 68 = .ok (.getfield 12, 3) := by decide +kernel
theorem dX5_bestPress_71 : decode cX5_bestPress 71 = .ok (.invokevirtual 29, 3) := by decide +kernel
theorem dX5_bestPress_74 : decode cX5_bestPress 74 = .ok (.iload_n 2, 1) := by decide +kernel
theorem dX5_bestPress_75 : decode cX5_bestPress 75 = .ok (.iconst 1, 1) := by decide +kernel
theorem dX5_bestPress_76 : decode cX5_bestPress 76 = .ok (.isub, 1) := by decide +kernel
theorem dX5_bestPress_77 : decode cX5_bestPress 77 = .ok (.invokestatic 33, 3) := by decide +kernel
theorem dX5_bestPress_80 : decode cX5_bestPress 80 = .ok (.ifCond .eq 6, 3) := by decide +kernel
theorem dX5_bestPress_83 : decode cX5_bestPress 83 = .ok (.iload 4, 2) := by decide +kernel
theorem dX5_bestPress_85 : decode cX5_bestPress 85 = .ok (.ireturn, 1) := by decide +kernel
theorem dX5_bestPress_86 : decode cX5_bestPress 86 = .ok (.iinc 4 1, 3) := by decide +kernel
theorem dX5_bestPress_89 : decode cX5_bestPress 89 = .ok (.goto (-58), 3) := by decide +kernel
theorem dX5_bestPress_92 : decode cX5_bestPress 92 = .ok (.iconst (-1), 1) := by decide +kernel
theorem dX5_bestPress_93 : decode cX5_bestPress 93 = .ok (.ireturn, 1) := by decide +kernel
theorem dX6_take_0 : decode cX6_take 0 = .ok (.iload_n 1, 1) := by decide +kernel
theorem dX6_take_1 : decode cX6_take 1 = .ok (.bipush 16, 2) := by decide +kernel
theorem dX6_take_3 : decode cX6_take 3 = .ok (.idiv, 1) := by decide +kernel
theorem dX6_take_4 : decode cX6_take 4 = .ok (.istore_n 2, 1) := by decide +kernel
theorem dX6_take_5 : decode cX6_take 5 = .ok (.iload_n 1, 1) := by decide +kernel
theorem dX6_take_6 : decode cX6_take 6 = .ok (.bipush 16, 2) := by decide +kernel
theorem dX6_take_8 : decode cX6_take 8 = .ok (.irem, 1) := by decide +kernel
theorem dX6_take_9 : decode cX6_take 9 = .ok (.tableswitch 139 0 5 #[39, 39, 39, 74, 93, 100], 39) := by decide +kernel
theorem dX6_take_48 : decode cX6_take 48 = .ok (.aload_n 0, 1) := by decide +kernel
theorem dX6_take_49 : decode cX6_take 49 = .ok (.iload_n 2, 1) := by decide +kernel
theorem dX6_take_50 : decode cX6_take 50 = .ok (.bipush 7, 2) := by decide +kernel
theorem dX6_take_52 : decode cX6_take 52 = .ok (.irem, 1) := by decide +kernel
theorem dX6_take_53 : decode cX6_take 53 = .ok (.iload_n 2, 1) := by decide +kernel
theorem dX6_take_54 : decode cX6_take 54 = .ok (.bipush 8, 2) := by decide +kernel
theorem dX6_take_56 : decode cX6_take 56 = .ok (.idiv, 1) := by decide +kernel
theorem dX6_take_57 : decode cX6_take 57 = .ok (.bipush 7, 2) := by decide +kernel
theorem dX6_take_59 : decode cX6_take 59 = .ok (.irem, 1) := by decide +kernel
theorem dX6_take_60 : decode cX6_take 60 = .ok (.iload_n 2, 1) := by decide +kernel
theorem dX6_take_61 : decode cX6_take 61 = .ok (.bipush 64, 2) := by decide +kernel
theorem dX6_take_63 : decode cX6_take 63 = .ok (.idiv, 1) := by decide +kernel
theorem dX6_take_64 : decode cX6_take 64 = .ok (.bipush 7, 2) := by decide +kernel
theorem dX6_take_66 : decode cX6_take 66 = .ok (.irem, 1) := by decide +kernel
theorem dX6_take_67 : decode cX6_take 67 = .ok (.iconst 1, 1) := by decide +kernel
theorem dX6_take_68 : decode cX6_take 68 = .ok (.iload_n 2, 1) := by decide +kernel
theorem dX6_take_69 : decode cX6_take 69 = .ok (.sipush 512, 3) := by decide +kernel
theorem dX6_take_72 : decode cX6_take 72 = .ok (.idiv, 1) := by decide +kernel
theorem dX6_take_73 : decode cX6_take 73 = .ok (.iconst 4, 1) := by decide +kernel
theorem dX6_take_74 : decode cX6_take 74 = .ok (.irem, 1) := by decide +kernel
theorem dX6_take_75 : decode cX6_take 75 = .ok (.iadd, 1) := by decide +kernel
theorem dX6_take_76 : decode cX6_take 76 = .ok (.invokevirtual 7, 3) := by decide +kernel
theorem dX6_take_79 : decode cX6_take 79 = .ok (.pop, 1) := by decide +kernel
theorem dX6_take_80 : decode cX6_take 80 = .ok (.goto 76, 3) := by decide +kernel
theorem dX6_take_83 : decode cX6_take 83 = .ok (.iload_n 2, 1) := by decide +kernel
theorem dX6_take_84 : decode cX6_take 84 = .ok (.iconst 4, 1) := by decide +kernel
theorem dX6_take_85 : decode cX6_take 85 = .ok (.idiv, 1) := by decide +kernel
theorem dX6_take_86 : decode cX6_take 86 = .ok (.iconst 3, 1) := by decide +kernel
theorem dX6_take_87 : decode cX6_take 87 = .ok (.irem, 1) := by decide +kernel
theorem dX6_take_88 : decode cX6_take 88 = .ok (.ifCond .ne 68, 3) := by decide +kernel
theorem dX6_take_91 : decode cX6_take 91 = .ok (.aload_n 0, 1) := by decide +kernel
theorem dX6_take_92 : decode cX6_take 92 = .ok (.iload_n 2, 1) := by decide +kernel
theorem dX6_take_93 : decode cX6_take 93 = .ok (.iconst 4, 1) := by decide +kernel
theorem dX6_take_94 : decode cX6_take 94 = .ok (.irem, 1) := by decide +kernel
theorem dX6_take_95 : decode cX6_take 95 = .ok (.invokevirtual 13, 3) := by decide +kernel
theorem dX6_take_98 : decode cX6_take 98 = .ok (.pop, 1) := by decide +kernel
theorem dX6_take_99 : decode cX6_take 99 = .ok (.goto 57, 3) := by decide +kernel
theorem dX6_take_102 : decode cX6_take 102 = .ok (.aload_n 0, 1) := by decide +kernel
theorem dX6_take_103 : decode cX6_take 103 = .ok (.invokevirtual 17, 3) := by decide +kernel
theorem dX6_take_106 : decode cX6_take 106 = .ok (.goto 50, 3) := by decide +kernel
theorem dX6_take_109 : decode cX6_take 109 = .ok (.iload_n 2, 1) := by decide +kernel
theorem dX6_take_110 : decode cX6_take 110 = .ok (.bipush 16, 2) := by decide +kernel
theorem dX6_take_112 : decode cX6_take 112 = .ok (.idiv, 1) := by decide +kernel
theorem dX6_take_113 : decode cX6_take 113 = .ok (.iconst 2, 1) := by decide +kernel
theorem dX6_take_114 : decode cX6_take 114 = .ok (.irem, 1) := by decide +kernel
theorem dX6_take_115 : decode cX6_take 115 = .ok (.ifCond .ne 18, 3) := by decide +kernel
theorem dX6_take_118 : decode cX6_take 118 = .ok (.aload_n 0, 1) := by decide +kernel
theorem dX6_take_119 : decode cX6_take 119 = .ok (.iconst 0, 1) := by decide +kernel
theorem dX6_take_120 : decode cX6_take 120 = .ok (.iconst 4, 1) := by decide +kernel
theorem dX6_take_121 : decode cX6_take 121 = .ok (.iload_n 2, 1) := by decide +kernel
theorem dX6_take_122 : decode cX6_take 122 = .ok (.bipush 13, 2) := by decide +kernel
theorem dX6_take_124 : decode cX6_take 124 = .ok (.irem, 1) := by decide +kernel
theorem dX6_take_125 : decode cX6_take 125 = .ok (.iadd, 1) := by decide +kernel
theorem dX6_take_126 : decode cX6_take 126 = .ok (.invokevirtual 20, 3) := by decide +kernel
theorem dX6_take_129 : decode cX6_take 129 = .ok (.pop, 1) := by decide +kernel
theorem dX6_take_130 : decode cX6_take 130 = .ok (.goto 26, 3) := by decide +kernel
theorem dX6_take_133 : decode cX6_take 133 = .ok (.aload_n 0, 1) := by decide +kernel
theorem dX6_take_134 : decode cX6_take 134 = .ok (.iconst 1, 1) := by decide +kernel
theorem dX6_take_135 : decode cX6_take 135 = .ok (.iconst 1, 1) := by decide +kernel
theorem dX6_take_136 : decode cX6_take 136 = .ok (.iload_n 2, 1) := by decide +kernel
theorem dX6_take_137 : decode cX6_take 137 = .ok (.bipush 9, 2) := by decide +kernel
theorem dX6_take_139 : decode cX6_take 139 = .ok (.irem, 1) := by decide +kernel
theorem dX6_take_140 : decode cX6_take 140 = .ok (.iadd, 1) := by decide +kernel
theorem dX6_take_141 : decode cX6_take 141 = .ok (.invokevirtual 20, 3) := by decide +kernel
theorem dX6_take_144 : decode cX6_take 144 = .ok (.pop, 1) := by decide +kernel
theorem dX6_take_145 : decode cX6_take 145 = .ok (.goto 11, 3) := by decide +kernel
theorem dX6_take_148 : decode cX6_take 148 = .ok (.aload_n 0, 1) := by decide +kernel
theorem dX6_take_149 : decode cX6_take 149 = .ok (.iload_n 2, 1) := by decide +kernel
theorem dX6_take_150 : decode cX6_take 150 = .ok (.iconst 4, 1) := by decide +kernel
theorem dX6_take_151 : decode cX6_take 151 = .ok (.irem, 1) := by decide +kernel
theorem dX6_take_152 : decode cX6_take 152 = .ok (.invokevirtual 24, 3) := by decide +kernel
theorem dX6_take_155 : decode cX6_take 155 = .ok (.pop, 1) := by decide +kernel
theorem dX6_take_156 : decode cX6_take 156 = .ok (.return_, 1) := by decide +kernel
theorem dX7_init_0 : decode cX7_init 0 = .ok (.aload_n 0, 1) := by decide +kernel
theorem dX7_init_1 : decode cX7_init 1 = .ok (.invokespecial 1, 3) := by decide +kernel
theorem dX7_init_4 : decode cX7_init 4 = .ok (.aload_n 0, 1) := by decide +kernel
theorem dX7_init_5 : decode cX7_init 5 = .ok (.new 7, 3) := by decide +kernel
theorem dX7_init_8 : decode cX7_init 8 = .ok (.dup, 1) := by decide +kernel
theorem dX7_init_9 : decode cX7_init 9 = .ok (.invokespecial 9, 3) := by decide +kernel
theorem dX7_init_12 : decode cX7_init 12 = .ok (.putfield 10, 3) := by decide +kernel
theorem dX7_init_15 : decode cX7_init 15 = .ok (.aload_n 0, 1) := by decide +kernel
theorem dX7_init_16 : decode cX7_init 16 = .ok (.new 16, 3) := by decide +kernel
theorem dX7_init_19 : decode cX7_init 19 = .ok (.dup, 1) := by decide +kernel
theorem dX7_init_20 : decode cX7_init 20 = .ok (.invokespecial 18, 3) := by decide +kernel
theorem dX7_init_23 : decode cX7_init 23 = .ok (.putfield 19, 3) := by decide +kernel
theorem dX7_init_26 : decode cX7_init 26 = .ok (.aload_n 0, 1) := by decide +kernel
theorem dX7_init_27 : decode cX7_init 27 = .ok (.new 23, 3) := by decide +kernel
theorem dX7_init_30 : decode cX7_init 30 = .ok (.dup, 1) := by decide +kernel
theorem dX7_init_31 : decode cX7_init 31 = .ok (.invokespecial 25, 3) := by decide +kernel
theorem dX7_init_34 : decode cX7_init 34 = .ok (.putfield 26, 3) := by decide +kernel
theorem dX7_init_37 : decode cX7_init 37 = .ok (.aload_n 0, 1) := by decide +kernel
theorem dX7_init_38 : decode cX7_init 38 = .ok (.iconst 2, 1) := by decide +kernel
theorem dX7_init_39 : decode cX7_init 39 = .ok (.anewarray 30, 3) := by decide +kernel
theorem dX7_init_42 : decode cX7_init 42 = .ok (.putfield 32, 3) := by decide +kernel
theorem dX7_init_45 : decode cX7_init 45 = .ok (.aload_n 0, 1) := by decide +kernel
theorem dX7_init_46 : decode cX7_init 46 = .ok (.new 30, 3) := by decide +kernel
theorem dX7_init_49 : decode cX7_init 49 = .ok (.dup, 1) := by decide +kernel
theorem dX7_init_50 : decode cX7_init 50 = .ok (.invokespecial 36, 3) := by decide +kernel
theorem dX7_init_53 : decode cX7_init 53 = .ok (.putfield 37, 3) := by decide +kernel
theorem dX7_init_56 : decode cX7_init 56 = .ok (.aload_n 0, 1) := by decide +kernel
theorem dX7_init_57 : decode cX7_init 57 = .ok (.new 30, 3) := by decide +kernel
theorem dX7_init_60 : decode cX7_init 60 = .ok (.dup, 1) := by decide +kernel
theorem dX7_init_61 : decode cX7_init 61 = .ok (.invokespecial 36, 3) := by decide +kernel
theorem dX7_init_64 : decode cX7_init 64 = .ok (.putfield 41, 3) := by decide +kernel
theorem dX7_init_67 : decode cX7_init 67 = .ok (.return_, 1) := by decide +kernel
theorem dX7_append_0 : decode cX7_append 0 = .ok (.iload_n 1, 1) := by decide +kernel
theorem dX7_append_1 : decode cX7_append 1 = .ok (.ifCond .lt 10, 3) := by decide +kernel
theorem dX7_append_4 : decode cX7_append 4 = .ok (.iload_n 1, 1) := by decide +kernel
theorem dX7_append_5 : decode cX7_append 5 = .ok (.sipush 255, 3) := by decide +kernel
theorem dX7_append_8 : decode cX7_append 8 = .ok (.if_icmp .le 13, 3) := by decide +kernel
theorem dX7_append_11 : decode cX7_append 11 = .ok (.new 44, 3) := by decide +kernel
theorem dX7_append_14 : decode cX7_append 14 = .ok (.dup, 1) := by decide +kernel
theorem dX7_append_15 : decode cX7_append 15 = .ok (.ldc 46, 2) := by decide +kernel
theorem dX7_append_17 : decode cX7_append 17 = .ok (.invokespecial 48, 3) := by decide +kernel
theorem dX7_append_20 : decode cX7_append 20 = .ok (.athrow, 1) := by decide +kernel
theorem dX7_append_21 : decode cX7_append 21 = .ok (.aload_n 0, 1) := by decide +kernel
theorem dX7_append_22 : decode cX7_append 22 = .ok (.getfield 10, 3) := by decide +kernel
theorem dX7_append_25 : decode cX7_append 25 = .ok (.invokevirtual 51, 3) := by decide +kernel
theorem dX7_append_28 : decode cX7_append 28 = .ok (.ifCond .eq 13, 3) := by decide +kernel
theorem dX7_append_31 : decode cX7_append 31 = .ok (.new 55, 3) := by decide +kernel
theorem dX7_append_34 : decode cX7_append 34 = .ok (.dup, 1) := by decide +kernel
theorem dX7_append_35 : decode cX7_append 35 = .ok (.ldc 57, 2) := by decide +kernel
theorem dX7_append_37 : decode cX7_append 37 = .ok (.invokespecial 59, 3) := by decide +kernel
theorem dX7_append_40 : decode cX7_append 40 = .ok (.athrow, 1) := by decide +kernel
theorem dX7_append_41 : decode cX7_append 41 = .ok (.aload_n 0, 1) := by decide +kernel
theorem dX7_append_42 : decode cX7_append 42 = .ok (.getfield 10, 3) := by decide +kernel
theorem dX7_append_45 : decode cX7_append 45 = .ok (.iload_n 1, 1) := by decide +kernel
theorem dX7_append_46 : decode cX7_append 46 = .ok (.i2c, 1) := by decide +kernel
theorem dX7_append_47 : decode cX7_append 47 = .ok (.invokevirtual 60, 3) := by decide +kernel
theorem dX7_append_50 : decode cX7_append 50 = .ok (.ireturn, 1) := by decide +kernel
theorem dX7_load_0 : decode cX7_load 0 = .ok (.aload_n 0, 1) := by decide +kernel
theorem dX7_load_1 : decode cX7_load 1 = .ok (.getfield 10, 3) := by decide +kernel
theorem dX7_load_4 : decode cX7_load 4 = .ok (.invokevirtual 68, 3) := by decide +kernel
theorem dX7_load_7 : decode cX7_load 7 = .ok (.iconst (-1), 1) := by decide +kernel
theorem dX7_load_8 : decode cX7_load 8 = .ok (.if_icmp .eq 13, 3) := by decide +kernel
theorem dX7_load_11 : decode cX7_load 11 = .ok (.new 55, 3) := by decide +kernel
theorem dX7_load_14 : decode cX7_load 14 = .ok (.dup, 1) := by decide +kernel
theorem dX7_load_15 : decode cX7_load 15 = .ok (.ldc 71, 2) := by decide +kernel
theorem dX7_load_17 : decode cX7_load 17 = .ok (.invokespecial 59, 3) := by decide +kernel
theorem dX7_load_20 : decode cX7_load 20 = .ok (.athrow, 1) := by decide +kernel
theorem dX7_load_21 : decode cX7_load 21 = .ok (.aload_n 0, 1) := by decide +kernel
theorem dX7_load_22 : decode cX7_load 22 = .ok (.new 30, 3) := by decide +kernel
theorem dX7_load_25 : decode cX7_load 25 = .ok (.dup, 1) := by decide +kernel
theorem dX7_load_26 : decode cX7_load 26 = .ok (.invokespecial 36, 3) := by decide +kernel
theorem dX7_load_29 : decode cX7_load 29 = .ok (.putfield 41, 3) := by decide +kernel
theorem dX7_load_32 : decode cX7_load 32 = .ok (.aload_n 0, 1) := by decide +kernel
theorem dX7_load_33 : decode cX7_load 33 = .ok (.getfield 19, 3) := by decide +kernel
theorem dX7_load_36 : decode cX7_load 36 = .ok (.invokevirtual 73, 3) := by decide +kernel
theorem dX7_load_39 : decode cX7_load 39 = .ok (.iconst 0, 1) := by decide +kernel
theorem dX7_load_40 : decode cX7_load 40 = .ok (.istore_n 1, 1) := by decide +kernel
theorem dX7_load_41 : decode cX7_load 41 = .ok (.iload_n 1, 1) := by decide +kernel
theorem dX7_load_42 : decode cX7_load 42 = .ok (.aload_n 0, 1) := by decide +kernel
theorem dX7_load_43 : decode cX7_load 43 = .ok (.getfield 32, 3) := by decide +kernel
theorem dX7_load_46 : decode cX7_load 46 = .ok (.arraylength, 1) := by decide +kernel
theorem dX7_load_47 : decode cX7_load 47 = .ok (.if_icmp .ge 16, 3) := by decide +kernel
theorem dX7_load_50 : decode cX7_load 50 = .ok (.aload_n 0, 1) := by decide +kernel
theorem dX7_load_51 : decode cX7_load 51 = .ok (.getfield 32, 3) := by decide +kernel
theorem dX7_load_54 : decode cX7_load 54 = .ok (.iload_n 1, 1) := by decide +kernel
theorem dX7_load_55 : decode cX7_load 55 = .ok (.aconst_null, 1) := by decide +kernel
theorem dX7_load_56 : decode cX7_load 56 = .ok (.aastore, 1) := by decide +kernel
theorem dX7_load_57 : decode cX7_load 57 = .ok (.iinc 1 1, 3) := by decide +kernel
theorem dX7_load_60 : decode cX7_load 60 = .ok (.goto (-19), 3) := by decide +kernel
theorem dX7_load_63 : decode cX7_load 63 = .ok (.iconst 0, 1) := by decide +kernel
theorem dX7_load_64 : decode cX7_load 64 = .ok (.istore_n 1, 1) := by decide +kernel
theorem dX7_load_65 : decode cX7_load 65 = .ok (.iconst 1, 1) := by decide +kernel
theorem dX7_load_66 : decode cX7_load 66 = .ok (.istore_n 2, 1) := by decide +kernel
theorem dX7_load_67 : decode cX7_load 67 = .ok (.iload_n 2, 1) := by decide +kernel
theorem dX7_load_68 : decode cX7_load 68 = .ok (.aload_n 0, 1) := by decide +kernel
theorem dX7_load_69 : decode cX7_load 69 = .ok (.getfield 10, 3) := by decide +kernel
theorem dX7_load_72 : decode cX7_load 72 = .ok (.invokevirtual 76, 3) := by decide +kernel
theorem dX7_load_75 : decode cX7_load 75 = .ok (.if_icmp .ge 31, 3) := by decide +kernel
theorem dX7_load_78 : decode cX7_load 78 = .ok (.aload_n 0, 1) := by decide +kernel
theorem dX7_load_79 : decode cX7_load 79 = .ok (.getfield 10, 3) := by decide +kernel
theorem dX7_load_82 : decode cX7_load 82 = .ok (.iload_n 2, 1) := by decide +kernel
theorem dX7_load_83 : decode cX7_load 83 = .ok (.invokevirtual 79, 3) := by decide +kernel
theorem dX7_load_86 : decode cX7_load 86 = .ok (.ifCond .eq 14, 3) := by decide +kernel
theorem dX7_load_89 : decode cX7_load 89 = .ok (.aload_n 0, 1) := by decide +kernel
theorem dX7_load_90 : decode cX7_load 90 = .ok (.iload_n 2, 1) := by decide +kernel
theorem dX7_load_91 : decode cX7_load 91 = .ok (.invokevirtual 83, 3) := by decide +kernel
theorem dX7_load_94 : decode cX7_load 94 = .ok (.ifCond .ne 6, 3) := by decide +kernel
theorem dX7_load_97 : decode cX7_load 97 = .ok (.iinc 1 1, 3) := by decide +kernel
theorem dX7_load_100 : decode cX7_load 100 = .ok (.iinc 2 1, 3) := by decide +kernel
theorem dX7_load_103 : decode cX7_load 103 = .ok (.goto (-36), 3) := by decide +kernel
theorem dX7_load_106 : decode cX7_load 106 = .ok (.iload_n 1, 1) := by decide +kernel
theorem dX7_load_107 : decode cX7_load 107 = .ok (.ireturn, 1) := by decide +kernel
theorem dX7_doCommand_0 : decode cX7_doCommand 0 = .ok (.aload_n 0, 1) := by decide +kernel
theorem dX7_doCommand_1 : decode cX7_doCommand 1 = .ok (.getfield 10, 3) := by decide +kernel
theorem dX7_doCommand_4 : decode cX7_doCommand 4 = .ok (.iload_n 1, 1) := by decide +kernel
theorem dX7_doCommand_5 : decode cX7_doCommand 5 = .ok (.iconst 1, 1) := by decide +kernel
theorem dX7_doCommand_6 : decode cX7_doCommand 6 = .ok (.iadd, 1) := by decide +kernel
theorem dX7_doCommand_7 : decode cX7_doCommand 7 = .ok (.invokevirtual 86, 3) := by decide +kernel
theorem dX7_doCommand_10 : decode cX7_doCommand 10 = .ok (.istore_n 2, 1) := by decide +kernel
theorem dX7_doCommand_11 : decode cX7_doCommand 11 = .ok (.aload_n 0, 1) := by decide +kernel
theorem dX7_doCommand_12 : decode cX7_doCommand 12 = .ok (.getfield 10, 3) := by decide +kernel
theorem dX7_doCommand_15 : decode cX7_doCommand 15 = .ok (.iload_n 1, 1) := by decide +kernel
theorem dX7_doCommand_16 : decode cX7_doCommand 16 = .ok (.iconst 2, 1) := by decide +kernel
theorem dX7_doCommand_17 : decode cX7_doCommand 17 = .ok (.iadd, 1) := by decide +kernel
theorem dX7_doCommand_18 : decode cX7_doCommand 18 = .ok (.invokevirtual 86, 3) := by decide +kernel
theorem dX7_doCommand_21 : decode cX7_doCommand 21 = .ok (.istore_n 3, 1) := by decide +kernel
theorem dX7_doCommand_22 : decode cX7_doCommand 22 = .ok (.aload_n 0, 1) := by decide +kernel
theorem dX7_doCommand_23 : decode cX7_doCommand 23 = .ok (.getfield 10, 3) := by decide +kernel
theorem dX7_doCommand_26 : decode cX7_doCommand 26 = .ok (.iload_n 1, 1) := by decide +kernel
theorem dX7_doCommand_27 : decode cX7_doCommand 27 = .ok (.iconst 3, 1) := by decide +kernel
theorem dX7_doCommand_28 : decode cX7_doCommand 28 = .ok (.iadd, 1) := by decide +kernel
theorem dX7_doCommand_29 : decode cX7_doCommand 29 = .ok (.invokevirtual 86, 3) := by decide +kernel
theorem dX7_doCommand_32 : decode cX7_doCommand 32 = .ok (.istore 4, 2) := by decide +kernel
theorem dX7_doCommand_34 : decode cX7_doCommand 34 = .ok (.aload_n 0, 1) := by decide +kernel
theorem dX7_doCommand_35 : decode cX7_doCommand 35 = .ok (.getfield 10, 3) := by decide +kernel
theorem dX7_doCommand_38 : decode cX7_doCommand 38 = .ok (.iload_n 1, 1) := by decide +kernel
theorem dX7_doCommand_39 : decode cX7_doCommand 39 = .ok (.invokevirtual 90, 3) := by decide +kernel
theorem dX7_doCommand_42 : decode cX7_doCommand 42 = .ok (.tableswitch 195 98 114 #[174, 195, 195, 149, 195, 82, 195, 195, 195, 195, 131, 195, 195, 195, 113, 195, 122], 82) := by decide +kernel
theorem dX7_doCommand_124 : decode cX7_doCommand 124 = .ok (.aload_n 0, 1) := by decide +kernel
theorem dX7_doCommand_125 : decode cX7_doCommand 125 = .ok (.getfield 41, 3) := by decide +kernel
theorem dX7_doCommand_128 : decode cX7_doCommand 128 = .ok (.iload_n 2, 1) := by decide +kernel
theorem dX7_doCommand_129 : decode cX7_doCommand 129 = .ok (.iload_n 3, 1) := by decide +kernel
theorem dX7_doCommand_130 : decode cX7_doCommand 130 = .ok (.iload 4, 2) := by decide +kernel
theorem dX7_doCommand_132 : decode cX7_doCommand 132 = .ok (.aload_n 0, 1) := by decide +kernel
theorem dX7_doCommand_133 : decode cX7_doCommand 133 = .ok (.getfield 10, 3) := by decide +kernel
theorem dX7_doCommand_136 : decode cX7_doCommand 136 = .ok (.iload_n 1, 1) := by decide +kernel
theorem dX7_doCommand_137 : decode cX7_doCommand 137 = .ok (.iconst 4, 1) := by decide +kernel
theorem dX7_doCommand_138 : decode cX7_doCommand 138 = .ok (.iadd, 1) := by decide +kernel
theorem dX7_doCommand_139 : decode cX7_doCommand 139 = .ok (.invokevirtual 86, 3) := by decide +kernel
theorem dX7_doCommand_142 : decode cX7_doCommand 142 = .ok (.invokevirtual 93, 3) := by decide +kernel
theorem dX7_doCommand_145 : decode cX7_doCommand 145 = .ok (.iconst (-1), 1) := by decide +kernel
theorem dX7_doCommand_146 : decode cX7_doCommand 146 = .ok (.if_icmp .eq 7, 3) := by decide +kernel
theorem dX7_doCommand_149 : decode cX7_doCommand 149 = .ok (.iconst 1, 1) := by decide +kernel
theorem dX7_doCommand_150 : decode cX7_doCommand 150 = .ok (.goto 4, 3) := by decide +kernel
theorem dX7_doCommand_153 : decode cX7_doCommand 153 = .ok (.iconst 0, 1) := by decide +kernel
theorem dX7_doCommand_154 : decode cX7_doCommand 154 = .ok (.ireturn, 1) := by decide +kernel
theorem dX7_doCommand_155 : decode cX7_doCommand 155 = .ok (.aload_n 0, 1) := by decide +kernel
theorem dX7_doCommand_156 : decode cX7_doCommand 156 = .ok (.getfield 41, 3) := by decide +kernel
theorem dX7_doCommand_159 : decode cX7_doCommand 159 = .ok (.iload_n 2, 1) := by decide +kernel
theorem dX7_doCommand_160 : decode cX7_doCommand 160 = .ok (.invokevirtual 97, 3) := by decide +kernel
theorem dX7_doCommand_163 : decode cX7_doCommand 163 = .ok (.ireturn, 1) := by decide +kernel
theorem dX7_doCommand_164 : decode cX7_doCommand 164 = .ok (.aload_n 0, 1) := by decide +kernel
theorem dX7_doCommand_165 : decode cX7_doCommand 165 = .ok (.getfield 41, 3) := by decide +kernel
theorem dX7_doCommand_168 : decode cX7_doCommand 168 = .ok (.invokevirtual 100, 3) := by decide +kernel
theorem dX7_doCommand_171 : decode cX7_doCommand 171 = .ok (.iconst 1, 1) := by decide +kernel
theorem dX7_doCommand_172 : decode cX7_doCommand 172 = .ok (.ireturn, 1) := by decide +kernel
theorem dX7_doCommand_173 : decode cX7_doCommand 173 = .ok (.aload_n 0, 1) := by decide +kernel
theorem dX7_doCommand_174 : decode cX7_doCommand 174 = .ok (.getfield 41, 3) := by decide +kernel
theorem dX7_doCommand_177 : decode cX7_doCommand 177 = .ok (.iload_n 2, 1) := by decide +kernel
theorem dX7_doCommand_178 : decode cX7_doCommand 178 = .ok (.invokevirtual 103, 3) := by decide +kernel
theorem dX7_doCommand_181 : decode cX7_doCommand 181 = .ok (.iconst (-1), 1) := by decide +kernel
theorem dX7_doCommand_182 : decode cX7_doCommand 182 = .ok (.if_icmp .eq 7, 3) := by decide +kernel
theorem dX7_doCommand_185 : decode cX7_doCommand 185 = .ok (.iconst 1, 1) := by decide +kernel
theorem dX7_doCommand_186 : decode cX7_doCommand 186 = .ok (.goto 4, 3) := by decide +kernel
theorem dX7_doCommand_189 : decode cX7_doCommand 189 = .ok (.iconst 0, 1) := by decide +kernel
theorem dX7_doCommand_190 : decode cX7_doCommand 190 = .ok (.ireturn, 1) := by decide +kernel
theorem dX7_doCommand_191 : decode cX7_doCommand 191 = .ok (.aload_n 0, 1) := by decide +kernel
theorem dX7_doCommand_192 : decode cX7_doCommand 192 = .ok (.getfield 41, 3) := by decide +kernel
theorem dX7_doCommand_195 : decode cX7_doCommand 195 = .ok (.iload_n 2, 1) := by decide +kernel
theorem dX7_doCommand_196 : decode cX7_doCommand 196 = .ok (.bipush 10, 2) := by decide +kernel
theorem dX7_doCommand_198 : decode cX7_doCommand 198 = .ok (.iload_n 3, 1) := by decide +kernel
theorem dX7_doCommand_199 : decode cX7_doCommand 199 = .ok (.imul, 1) := by decide +kernel
theorem dX7_doCommand_200 : decode cX7_doCommand 200 = .ok (.iload 4, 2) := by decide +kernel
theorem dX7_doCommand_202 : decode cX7_doCommand 202 = .ok (.iadd, 1) := by decide +kernel
theorem dX7_doCommand_203 : decode cX7_doCommand 203 = .ok (.invokevirtual 106, 3) := by decide +kernel
theorem dX7_doCommand_206 : decode cX7_doCommand 206 = .ok (.iconst (-1), 1) := by decide +kernel
theorem dX7_doCommand_207 : decode cX7_doCommand 207 = .ok (.if_icmp .eq 7, 3) := by decide +kernel
theorem dX7_doCommand_210 : decode cX7_doCommand 210 = .ok (.iconst 1, 1) := by decide +kernel
theorem dX7_doCommand_211 : decode cX7_doCommand 211 = .ok (.goto 4, 3) := by decide +kernel
theorem dX7_doCommand_214 : decode cX7_doCommand 214 = .ok (.iconst 0, 1) := by decide +kernel
theorem dX7_doCommand_215 : decode cX7_doCommand 215 = .ok (.ireturn, 1) := by decide +kernel
theorem dX7_doCommand_216 : decode cX7_doCommand 216 = .ok (.aload_n 0, 1) := by decide +kernel
theorem dX7_doCommand_217 : decode cX7_doCommand 217 = .ok (.getfield 41, 3) := by decide +kernel
theorem dX7_doCommand_220 : decode cX7_doCommand 220 = .ok (.aload_n 0, 1) := by decide +kernel
theorem dX7_doCommand_221 : decode cX7_doCommand 221 = .ok (.getfield 26, 3) := by decide +kernel
theorem dX7_doCommand_224 : decode cX7_doCommand 224 = .ok (.aload_n 0, 1) := by decide +kernel
theorem dX7_doCommand_225 : decode cX7_doCommand 225 = .ok (.getfield 41, 3) := by decide +kernel
theorem dX7_doCommand_228 : decode cX7_doCommand 228 = .ok (.invokevirtual 110, 3) := by decide +kernel
theorem dX7_doCommand_231 : decode cX7_doCommand 231 = .ok (.invokevirtual 97, 3) := by decide +kernel
theorem dX7_doCommand_234 : decode cX7_doCommand 234 = .ok (.pop, 1) := by decide +kernel
theorem dX7_doCommand_235 : decode cX7_doCommand 235 = .ok (.iconst 1, 1) := by decide +kernel
theorem dX7_doCommand_236 : decode cX7_doCommand 236 = .ok (.ireturn, 1) := by decide +kernel
theorem dX7_doCommand_237 : decode cX7_doCommand 237 = .ok (.iconst 0, 1) := by decide +kernel
theorem dX7_doCommand_238 : decode cX7_doCommand 238 = .ok (.ireturn, 1) := by decide +kernel
theorem dX7_about_0 : decode cX7_about 0 = .ok (.iload_n 1, 1) := by decide +kernel
theorem dX7_about_1 : decode cX7_about 1 = .ok (.ifCond .lt 9, 3) := by decide +kernel
theorem dX7_about_4 : decode cX7_about 4 = .ok (.iload_n 1, 1) := by decide +kernel
theorem dX7_about_5 : decode cX7_about 5 = .ok (.bipush 11, 2) := by decide +kernel
theorem dX7_about_7 : decode cX7_about 7 = .ok (.if_icmp .le 13, 3) := by decide +kernel
theorem dX7_about_10 : decode cX7_about 10 = .ok (.new 44, 3) := by decide +kernel
theorem dX7_about_13 : decode cX7_about 13 = .ok (.dup, 1) := by decide +kernel
theorem dX7_about_14 : decode cX7_about 14 = .ok (.ldc 114, 2) := by decide +kernel
theorem dX7_about_16 : decode cX7_about 16 = .ok (.invokespecial 48, 3) := by decide +kernel
theorem dX7_about_19 : decode cX7_about 19 = .ok (.athrow, 1) := by decide +kernel
theorem dX7_about_20 : decode cX7_about 20 = .ok (.aload_n 0, 1) := by decide +kernel
theorem dX7_about_21 : decode cX7_about 21 = .ok (.getfield 41, 3) := by decide +kernel
theorem dX7_about_24 : decode cX7_about 24 = .ok (.iload_n 1, 1) := by decide +kernel
theorem dX7_about_25 : decode cX7_about 25 = .ok (.invokevirtual 116, 3) := by decide +kernel
theorem dX7_about_28 : decode cX7_about 28 = .ok (.ireturn, 1) := by decide +kernel
theorem dX7_guestOf_0 : decode cX7_guestOf 0 = .ok (.aload_n 0, 1) := by decide +kernel
theorem dX7_guestOf_1 : decode cX7_guestOf 1 = .ok (.iload_n 1, 1) := by decide +kernel
theorem dX7_guestOf_2 : decode cX7_guestOf 2 = .ok (.invokevirtual 119, 3) := by decide +kernel
theorem dX7_guestOf_5 : decode cX7_guestOf 5 = .ok (.iload_n 2, 1) := by decide +kernel
theorem dX7_guestOf_6 : decode cX7_guestOf 6 = .ok (.ifCond .lt 9, 3) := by decide +kernel
theorem dX7_guestOf_9 : decode cX7_guestOf 9 = .ok (.iload_n 2, 1) := by decide +kernel
theorem dX7_guestOf_10 : decode cX7_guestOf 10 = .ok (.bipush 7, 2) := by decide +kernel
theorem dX7_guestOf_12 : decode cX7_guestOf 12 = .ok (.if_icmp .le 13, 3) := by decide +kernel
theorem dX7_guestOf_15 : decode cX7_guestOf 15 = .ok (.new 44, 3) := by decide +kernel
theorem dX7_guestOf_18 : decode cX7_guestOf 18 = .ok (.dup, 1) := by decide +kernel
theorem dX7_guestOf_19 : decode cX7_guestOf 19 = .ok (.ldc 123, 2) := by decide +kernel
theorem dX7_guestOf_21 : decode cX7_guestOf 21 = .ok (.invokespecial 48, 3) := by decide +kernel
theorem dX7_guestOf_24 : decode cX7_guestOf 24 = .ok (.athrow, 1) := by decide +kernel
theorem dX7_guestOf_25 : decode cX7_guestOf 25 = .ok (.aload_n 0, 1) := by decide +kernel
theorem dX7_guestOf_26 : decode cX7_guestOf 26 = .ok (.getfield 41, 3) := by decide +kernel
theorem dX7_guestOf_29 : decode cX7_guestOf 29 = .ok (.iload_n 1, 1) := by decide +kernel
theorem dX7_guestOf_30 : decode cX7_guestOf 30 = .ok (.iload_n 2, 1) := by decide +kernel
theorem dX7_guestOf_31 : decode cX7_guestOf 31 = .ok (.invokevirtual 125, 3) := by decide +kernel
theorem dX7_guestOf_34 : decode cX7_guestOf 34 = .ok (.ireturn, 1) := by decide +kernel
theorem dX7_floorOf_0 : decode cX7_floorOf 0 = .ok (.iload_n 1, 1) := by decide +kernel
theorem dX7_floorOf_1 : decode cX7_floorOf 1 = .ok (.invokestatic 128, 3) := by decide +kernel
theorem dX7_floorOf_4 : decode cX7_floorOf 4 = .ok (.ifCond .ne 13, 3) := by decide +kernel
theorem dX7_floorOf_7 : decode cX7_floorOf 7 = .ok (.new 131, 3) := by decide +kernel
theorem dX7_floorOf_10 : decode cX7_floorOf 10 = .ok (.dup, 1) := by decide +kernel
theorem dX7_floorOf_11 : decode cX7_floorOf 11 = .ok (.ldc 133, 2) := by decide +kernel
theorem dX7_floorOf_13 : decode cX7_floorOf 13 = .ok (.invokespecial 135, 3) := by decide +kernel
theorem dX7_floorOf_16 : decode cX7_floorOf 16 = .ok (.athrow, 1) := by decide +kernel
theorem dX7_floorOf_17 : decode cX7_floorOf 17 = .ok (.iload_n 2, 1) := by decide +kernel
theorem dX7_floorOf_18 : decode cX7_floorOf 18 = .ok (.ifCond .lt 8, 3) := by decide +kernel
theorem dX7_floorOf_21 : decode cX7_floorOf 21 = .ok (.iload_n 2, 1) := by decide +kernel
theorem dX7_floorOf_22 : decode cX7_floorOf 22 = .ok (.iconst 2, 1) := by decide +kernel
theorem dX7_floorOf_23 : decode cX7_floorOf 23 = .ok (.if_icmp .le 13, 3) := by decide +kernel
theorem dX7_floorOf_26 : decode cX7_floorOf 26 = .ok (.new 44, 3) := by decide +kernel
theorem dX7_floorOf_29 : decode cX7_floorOf 29 = .ok (.dup, 1) := by decide +kernel
theorem dX7_floorOf_30 : decode cX7_floorOf 30 = .ok (.ldc 136, 2) := by decide +kernel
theorem dX7_floorOf_32 : decode cX7_floorOf 32 = .ok (.invokespecial 48, 3) := by decide +kernel
theorem dX7_floorOf_35 : decode cX7_floorOf 35 = .ok (.athrow, 1) := by decide +kernel
theorem dX7_floorOf_36 : decode cX7_floorOf 36 = .ok (.aload_n 0, 1) := by decide +kernel
theorem dX7_floorOf_37 : decode cX7_floorOf 37 = .ok (.getfield 41, 3) := by decide +kernel
theorem dX7_floorOf_40 : decode cX7_floorOf 40 = .ok (.iload_n 1, 1) := by decide +kernel
theorem dX7_floorOf_41 : decode cX7_floorOf 41 = .ok (.iload_n 2, 1) := by decide +kernel
theorem dX7_floorOf_42 : decode cX7_floorOf 42 = .ok (.invokevirtual 138, 3) := by decide +kernel
theorem dX7_floorOf_45 : decode cX7_floorOf 45 = .ok (.ireturn, 1) := by decide +kernel
theorem dX7_setting_0 : decode cX7_setting 0 = .ok (.iload_n 1, 1) := by decide +kernel
theorem dX7_setting_1 : decode cX7_setting 1 = .ok (.invokestatic 141, 3) := by decide +kernel
theorem dX7_setting_4 : decode cX7_setting 4 = .ok (.ifCond .ne 13, 3) := by decide +kernel
theorem dX7_setting_7 : decode cX7_setting 7 = .ok (.new 44, 3) := by decide +kernel
theorem dX7_setting_10 : decode cX7_setting 10 = .ok (.dup, 1) := by decide +kernel
theorem dX7_setting_11 : decode cX7_setting 11 = .ok (.ldc 144, 2) := by decide +kernel
theorem dX7_setting_13 : decode cX7_setting 13 = .ok (.invokespecial 48, 3) := by decide +kernel
theorem dX7_setting_16 : decode cX7_setting 16 = .ok (.athrow, 1) := by decide +kernel
theorem dX7_setting_17 : decode cX7_setting 17 = .ok (.aload_n 0, 1) := by decide +kernel
theorem dX7_setting_18 : decode cX7_setting 18 = .ok (.getfield 41, 3) := by decide +kernel
theorem dX7_setting_21 : decode cX7_setting 21 = .ok (.iload_n 1, 1) := by decide +kernel
theorem dX7_setting_22 : decode cX7_setting 22 = .ok (.invokevirtual 146, 3) := by decide +kernel
theorem dX7_setting_25 : decode cX7_setting 25 = .ok (.ireturn, 1) := by decide +kernel
theorem dX7_come_0 : decode cX7_come 0 = .ok (.iload_n 1, 1) := by decide +kernel
theorem dX7_come_1 : decode cX7_come 1 = .ok (.invokestatic 128, 3) := by decide +kernel
theorem dX7_come_4 : decode cX7_come 4 = .ok (.ifCond .eq 17, 3) := by decide +kernel
theorem dX7_come_7 : decode cX7_come 7 = .ok (.iload_n 2, 1) := by decide +kernel
theorem dX7_come_8 : decode cX7_come 8 = .ok (.invokestatic 128, 3) := by decide +kernel
theorem dX7_come_11 : decode cX7_come 11 = .ok (.ifCond .eq 10, 3) := by decide +kernel
theorem dX7_come_14 : decode cX7_come 14 = .ok (.iload_n 3, 1) := by decide +kernel
theorem dX7_come_15 : decode cX7_come 15 = .ok (.invokestatic 128, 3) := by decide +kernel
theorem dX7_come_18 : decode cX7_come 18 = .ok (.ifCond .ne 13, 3) := by decide +kernel
theorem dX7_come_21 : decode cX7_come 21 = .ok (.new 131, 3) := by decide +kernel
theorem dX7_come_24 : decode cX7_come 24 = .ok (.dup, 1) := by decide +kernel
theorem dX7_come_25 : decode cX7_come 25 = .ok (.ldc 133, 2) := by decide +kernel
theorem dX7_come_27 : decode cX7_come 27 = .ok (.invokespecial 135, 3) := by decide +kernel
theorem dX7_come_30 : decode cX7_come 30 = .ok (.athrow, 1) := by decide +kernel
theorem dX7_come_31 : decode cX7_come 31 = .ok (.iload 4, 2) := by decide +kernel
theorem dX7_come_33 : decode cX7_come 33 = .ok (.invokestatic 149, 3) := by decide +kernel
theorem dX7_come_36 : decode cX7_come 36 = .ok (.ifCond .ne 13, 3) := by decide +kernel
theorem dX7_come_39 : decode cX7_come 39 = .ok (.new 44, 3) := by decide +kernel
theorem dX7_come_42 : decode cX7_come 42 = .ok (.dup, 1) := by decide +kernel
theorem dX7_come_43 : decode cX7_come 43 = .ok (.ldc 152, 2) := by decide +kernel
theorem dX7_come_45 : decode cX7_come 45 = .ok (.invokespecial 48, 3) := by decide +kernel
theorem dX7_come_48 : decode cX7_come 48 = .ok (.athrow, 1) := by decide +kernel
theorem dX7_come_49 : decode cX7_come 49 = .ok (.aload_n 0, 1) := by decide +kernel
theorem dX7_come_50 : decode cX7_come 50 = .ok (.getfield 41, 3) := by decide +kernel
theorem dX7_come_53 : decode cX7_come 53 = .ok (.invokevirtual 154, 3) := by decide +kernel
theorem dX7_come_56 : decode cX7_come 56 = .ok (.ifCond .eq 13, 3) := by decide +kernel
theorem dX7_come_59 : decode cX7_come 59 = .ok (.new 55, 3) := by decide +kernel
theorem dX7_come_62 : decode cX7_come 62 = .ok (.dup, 1) := by decide +kernel
theorem dX7_come_63 : decode cX7_come 63 = .ok (.ldc 155, 2) := by decide +kernel
theorem dX7_come_65 : decode cX7_come 65 = .ok (.invokespecial 59, 3) := by decide +kernel
theorem dX7_come_68 : decode cX7_come 68 = .ok (.athrow, 1) := by decide +kernel
theorem dX7_come_69 : decode cX7_come 69 = .ok (.aload_n 0, 1) := by decide +kernel
theorem dX7_come_70 : decode cX7_come 70 = .ok (.getfield 19, 3) := by decide +kernel
theorem dX7_come_73 : decode cX7_come 73 = .ok (.aload_n 0, 1) := by decide +kernel
theorem dX7_come_74 : decode cX7_come 74 = .ok (.getfield 41, 3) := by decide +kernel
theorem dX7_come_77 : decode cX7_come 77 = .ok (.invokevirtual 157, 3) := by decide +kernel
theorem dX7_come_80 : decode cX7_come 80 = .ok (.aload_n 0, 1) := by decide +kernel
theorem dX7_come_81 : decode cX7_come 81 = .ok (.getfield 41, 3) := by decide +kernel
theorem dX7_come_84 : decode cX7_come 84 = .ok (.iload_n 1, 1) := by decide +kernel
theorem dX7_come_85 : decode cX7_come 85 = .ok (.iload_n 2, 1) := by decide +kernel
theorem dX7_come_86 : decode cX7_come 86 = .ok (.iload_n 3, 1) := by decide +kernel
theorem dX7_come_87 : decode cX7_come 87 = .ok (.iload 4, 2) := by decide +kernel
theorem dX7_come_89 : decode cX7_come 89 = .ok (.invokevirtual 93, 3) := by decide +kernel
theorem dX7_come_92 : decode cX7_come 92 = .ok (.ireturn, 1) := by decide +kernel
theorem dX7_leave_0 : decode cX7_leave 0 = .ok (.aload_n 0, 1) := by decide +kernel
theorem dX7_leave_1 : decode cX7_leave 1 = .ok (.iload_n 1, 1) := by decide +kernel
theorem dX7_leave_2 : decode cX7_leave 2 = .ok (.invokevirtual 119, 3) := by decide +kernel
theorem dX7_leave_5 : decode cX7_leave 5 = .ok (.aload_n 0, 1) := by decide +kernel
theorem dX7_leave_6 : decode cX7_leave 6 = .ok (.getfield 19, 3) := by decide +kernel
theorem dX7_leave_9 : decode cX7_leave 9 = .ok (.aload_n 0, 1) := by decide +kernel
theorem dX7_leave_10 : decode cX7_leave 10 = .ok (.getfield 41, 3) := by decide +kernel
theorem dX7_leave_13 : decode cX7_leave 13 = .ok (.invokevirtual 157, 3) := by decide +kernel
theorem dX7_leave_16 : decode cX7_leave 16 = .ok (.aload_n 0, 1) := by decide +kernel
theorem dX7_leave_17 : decode cX7_leave 17 = .ok (.getfield 41, 3) := by decide +kernel
theorem dX7_leave_20 : decode cX7_leave 20 = .ok (.iload_n 1, 1) := by decide +kernel
theorem dX7_leave_21 : decode cX7_leave 21 = .ok (.invokevirtual 103, 3) := by decide +kernel
theorem dX7_leave_24 : decode cX7_leave 24 = .ok (.ireturn, 1) := by decide +kernel
theorem dX7_press_0 : decode cX7_press 0 = .ok (.aload_n 0, 1) := by decide +kernel
theorem dX7_press_1 : decode cX7_press 1 = .ok (.iload_n 1, 1) := by decide +kernel
theorem dX7_press_2 : decode cX7_press 2 = .ok (.invokevirtual 119, 3) := by decide +kernel
theorem dX7_press_5 : decode cX7_press 5 = .ok (.aload_n 0, 1) := by decide +kernel
theorem dX7_press_6 : decode cX7_press 6 = .ok (.getfield 19, 3) := by decide +kernel
theorem dX7_press_9 : decode cX7_press 9 = .ok (.aload_n 0, 1) := by decide +kernel
theorem dX7_press_10 : decode cX7_press 10 = .ok (.getfield 41, 3) := by decide +kernel
theorem dX7_press_13 : decode cX7_press 13 = .ok (.invokevirtual 157, 3) := by decide +kernel
theorem dX7_press_16 : decode cX7_press 16 = .ok (.aload_n 0, 1) := by decide +kernel
theorem dX7_press_17 : decode cX7_press 17 = .ok (.getfield 41, 3) := by decide +kernel
theorem dX7_press_20 : decode cX7_press 20 = .ok (.iload_n 1, 1) := by decide +kernel
theorem dX7_press_21 : decode cX7_press 21 = .ok (.invokevirtual 161, 3) := by decide +kernel
theorem dX7_press_24 : decode cX7_press 24 = .ok (.ireturn, 1) := by decide +kernel
theorem dX7_rest_0 : decode cX7_rest 0 = .ok (.aload_n 0, 1) := by decide +kernel
theorem dX7_rest_1 : decode cX7_rest 1 = .ok (.getfield 19, 3) := by decide +kernel
theorem dX7_rest_4 : decode cX7_rest 4 = .ok (.aload_n 0, 1) := by decide +kernel
theorem dX7_rest_5 : decode cX7_rest 5 = .ok (.getfield 41, 3) := by decide +kernel
theorem dX7_rest_8 : decode cX7_rest 8 = .ok (.invokevirtual 157, 3) := by decide +kernel
theorem dX7_rest_11 : decode cX7_rest 11 = .ok (.aload_n 0, 1) := by decide +kernel
theorem dX7_rest_12 : decode cX7_rest 12 = .ok (.getfield 41, 3) := by decide +kernel
theorem dX7_rest_15 : decode cX7_rest 15 = .ok (.invokevirtual 100, 3) := by decide +kernel
theorem dX7_rest_18 : decode cX7_rest 18 = .ok (.aload_n 0, 1) := by decide +kernel
theorem dX7_rest_19 : decode cX7_rest 19 = .ok (.getfield 41, 3) := by decide +kernel
theorem dX7_rest_22 : decode cX7_rest 22 = .ok (.invokevirtual 164, 3) := by decide +kernel
theorem dX7_rest_25 : decode cX7_rest 25 = .ok (.ireturn, 1) := by decide +kernel
theorem dX7_set_0 : decode cX7_set 0 = .ok (.iload_n 1, 1) := by decide +kernel
theorem dX7_set_1 : decode cX7_set 1 = .ok (.iload_n 2, 1) := by decide +kernel
theorem dX7_set_2 : decode cX7_set 2 = .ok (.invokestatic 167, 3) := by decide +kernel
theorem dX7_set_5 : decode cX7_set 5 = .ok (.ifCond .ne 13, 3) := by decide +kernel
theorem dX7_set_8 : decode cX7_set 8 = .ok (.new 44, 3) := by decide +kernel
theorem dX7_set_11 : decode cX7_set 11 = .ok (.dup, 1) := by decide +kernel
theorem dX7_set_12 : decode cX7_set 12 = .ok (.ldc 171, 2) := by decide +kernel
theorem dX7_set_14 : decode cX7_set 14 = .ok (.invokespecial 48, 3) := by decide +kernel
theorem dX7_set_17 : decode cX7_set 17 = .ok (.athrow, 1) := by decide +kernel
theorem dX7_set_18 : decode cX7_set 18 = .ok (.aload_n 0, 1) := by decide +kernel
theorem dX7_set_19 : decode cX7_set 19 = .ok (.getfield 19, 3) := by decide +kernel
theorem dX7_set_22 : decode cX7_set 22 = .ok (.aload_n 0, 1) := by decide +kernel
theorem dX7_set_23 : decode cX7_set 23 = .ok (.getfield 41, 3) := by decide +kernel
theorem dX7_set_26 : decode cX7_set 26 = .ok (.invokevirtual 157, 3) := by decide +kernel
theorem dX7_set_29 : decode cX7_set 29 = .ok (.aload_n 0, 1) := by decide +kernel
theorem dX7_set_30 : decode cX7_set 30 = .ok (.getfield 41, 3) := by decide +kernel
theorem dX7_set_33 : decode cX7_set 33 = .ok (.iload_n 1, 1) := by decide +kernel
theorem dX7_set_34 : decode cX7_set 34 = .ok (.iload_n 2, 1) := by decide +kernel
theorem dX7_set_35 : decode cX7_set 35 = .ok (.invokevirtual 106, 3) := by decide +kernel
theorem dX7_set_38 : decode cX7_set 38 = .ok (.ireturn, 1) := by decide +kernel
theorem dX7_undo_0 : decode cX7_undo 0 = .ok (.aload_n 0, 1) := by decide +kernel
theorem dX7_undo_1 : decode cX7_undo 1 = .ok (.getfield 19, 3) := by decide +kernel
theorem dX7_undo_4 : decode cX7_undo 4 = .ok (.invokevirtual 173, 3) := by decide +kernel
theorem dX7_undo_7 : decode cX7_undo 7 = .ok (.ifCond .eq 13, 3) := by decide +kernel
theorem dX7_undo_10 : decode cX7_undo 10 = .ok (.new 55, 3) := by decide +kernel
theorem dX7_undo_13 : decode cX7_undo 13 = .ok (.dup, 1) := by decide +kernel
theorem dX7_undo_14 : decode cX7_undo 14 = .ok (.ldc 176, 2) := by decide +kernel
theorem dX7_undo_16 : decode cX7_undo 16 = .ok (.invokespecial 59, 3) := by decide +kernel
theorem dX7_undo_19 : decode cX7_undo 19 = .ok (.athrow, 1) := by decide +kernel
theorem dX7_undo_20 : decode cX7_undo 20 = .ok (.aload_n 0, 1) := by decide +kernel
theorem dX7_undo_21 : decode cX7_undo 21 = .ok (.getfield 19, 3) := by decide +kernel
theorem dX7_undo_24 : decode cX7_undo 24 = .ok (.aload_n 0, 1) := by decide +kernel
theorem dX7_undo_25 : decode cX7_undo 25 = .ok (.getfield 41, 3) := by decide +kernel
theorem dX7_undo_28 : decode cX7_undo 28 = .ok (.invokevirtual 178, 3) := by decide +kernel
theorem dX7_undo_31 : decode cX7_undo 31 = .ok (.aload_n 0, 1) := by decide +kernel
theorem dX7_undo_32 : decode cX7_undo 32 = .ok (.getfield 19, 3) := by decide +kernel
theorem dX7_undo_35 : decode cX7_undo 35 = .ok (.invokevirtual 181, 3) := by decide +kernel
theorem dX7_undo_38 : decode cX7_undo 38 = .ok (.ireturn, 1) := by decide +kernel
theorem dX7_why_0 : decode cX7_why 0 = .ok (.aload_n 0, 1) := by decide +kernel
theorem dX7_why_1 : decode cX7_why 1 = .ok (.iload_n 1, 1) := by decide +kernel
theorem dX7_why_2 : decode cX7_why 2 = .ok (.invokevirtual 119, 3) := by decide +kernel
theorem dX7_why_5 : decode cX7_why 5 = .ok (.aload_n 0, 1) := by decide +kernel
theorem dX7_why_6 : decode cX7_why 6 = .ok (.getfield 41, 3) := by decide +kernel
theorem dX7_why_9 : decode cX7_why 9 = .ok (.iload_n 1, 1) := by decide +kernel
theorem dX7_why_10 : decode cX7_why 10 = .ok (.invokevirtual 182, 3) := by decide +kernel
theorem dX7_why_13 : decode cX7_why 13 = .ok (.ireturn, 1) := by decide +kernel
theorem dX7_fewest_0 : decode cX7_fewest 0 = .ok (.iload_n 1, 1) := by decide +kernel
theorem dX7_fewest_1 : decode cX7_fewest 1 = .ok (.ifCond .eq 18, 3) := by decide +kernel
theorem dX7_fewest_4 : decode cX7_fewest 4 = .ok (.iload_n 1, 1) := by decide +kernel
theorem dX7_fewest_5 : decode cX7_fewest 5 = .ok (.iconst 1, 1) := by decide +kernel
theorem dX7_fewest_6 : decode cX7_fewest 6 = .ok (.if_icmp .eq 13, 3) := by decide +kernel
theorem dX7_fewest_9 : decode cX7_fewest 9 = .ok (.new 44, 3) := by decide +kernel
theorem dX7_fewest_12 : decode cX7_fewest 12 = .ok (.dup, 1) := by decide +kernel
theorem dX7_fewest_13 : decode cX7_fewest 13 = .ok (.ldc 185, 2) := by decide +kernel
theorem dX7_fewest_15 : decode cX7_fewest 15 = .ok (.invokespecial 48, 3) := by decide +kernel
theorem dX7_fewest_18 : decode cX7_fewest 18 = .ok (.athrow, 1) := by decide +kernel
theorem dX7_fewest_19 : decode cX7_fewest 19 = .ok (.iload_n 1, 1) := by decide +kernel
theorem dX7_fewest_20 : decode cX7_fewest 20 = .ok (.ifCond .ne 17, 3) := by decide +kernel
theorem dX7_fewest_23 : decode cX7_fewest 23 = .ok (.aload_n 0, 1) := by decide +kernel
theorem dX7_fewest_24 : decode cX7_fewest 24 = .ok (.getfield 26, 3) := by decide +kernel
theorem dX7_fewest_27 : decode cX7_fewest 27 = .ok (.aload_n 0, 1) := by decide +kernel
theorem dX7_fewest_28 : decode cX7_fewest 28 = .ok (.getfield 41, 3) := by decide +kernel
theorem dX7_fewest_31 : decode cX7_fewest 31 = .ok (.invokevirtual 187, 3) := by decide +kernel
theorem dX7_fewest_34 : decode cX7_fewest 34 = .ok (.goto 14, 3) := by decide +kernel
theorem dX7_fewest_37 : decode cX7_fewest 37 = .ok (.aload_n 0, 1) := by decide +kernel
theorem dX7_fewest_38 : decode cX7_fewest 38 = .ok (.getfield 26, 3) := by decide +kernel
theorem dX7_fewest_41 : decode cX7_fewest 41 = .ok (.aload_n 0, 1) := by decide +kernel
theorem dX7_fewest_42 : decode cX7_fewest 42 = .ok (.getfield 41, 3) := by decide +kernel
theorem dX7_fewest_45 : decode cX7_fewest 45 = .ok (.invokevirtual 190, 3) := by decide +kernel
theorem dX7_fewest_48 : decode cX7_fewest 48 = .ok (.ireturn, 1) := by decide +kernel
theorem dX7_best_0 : decode cX7_best 0 = .ok (.aload_n 0, 1) := by decide +kernel
theorem dX7_best_1 : decode cX7_best 1 = .ok (.getfield 26, 3) := by decide +kernel
theorem dX7_best_4 : decode cX7_best 4 = .ok (.aload_n 0, 1) := by decide +kernel
theorem dX7_best_5 : decode cX7_best 5 = .ok (.getfield 41, 3) := by decide +kernel
theorem dX7_best_8 : decode cX7_best 8 = .ok (.invokevirtual 110, 3) := by decide +kernel
theorem dX7_best_11 : decode cX7_best 11 = .ok (.ireturn, 1) := by decide +kernel
theorem dX7_ifPressed_0 : decode cX7_ifPressed 0 = .ok (.iload_n 1, 1) := by decide +kernel
theorem dX7_ifPressed_1 : decode cX7_ifPressed 1 = .ok (.iconst 1, 1) := by decide +kernel
theorem dX7_ifPressed_2 : decode cX7_ifPressed 2 = .ok (.if_icmp .lt 8, 3) := by decide +kernel
theorem dX7_ifPressed_5 : decode cX7_ifPressed 5 = .ok (.iload_n 1, 1) := by decide +kernel
theorem dX7_ifPressed_6 : decode cX7_ifPressed 6 = .ok (.iconst 5, 1) := by decide +kernel
theorem dX7_ifPressed_7 : decode cX7_ifPressed 7 = .ok (.if_icmp .le 13, 3) := by decide +kernel
theorem dX7_ifPressed_10 : decode cX7_ifPressed 10 = .ok (.new 44, 3) := by decide +kernel
theorem dX7_ifPressed_13 : decode cX7_ifPressed 13 = .ok (.dup, 1) := by decide +kernel
theorem dX7_ifPressed_14 : decode cX7_ifPressed 14 = .ok (.ldc 193, 2) := by decide +kernel
theorem dX7_ifPressed_16 : decode cX7_ifPressed 16 = .ok (.invokespecial 48, 3) := by decide +kernel
theorem dX7_ifPressed_19 : decode cX7_ifPressed 19 = .ok (.athrow, 1) := by decide +kernel
theorem dX7_ifPressed_20 : decode cX7_ifPressed 20 = .ok (.iload_n 2, 1) := by decide +kernel
theorem dX7_ifPressed_21 : decode cX7_ifPressed 21 = .ok (.ifCond .lt 14, 3) := by decide +kernel
theorem dX7_ifPressed_24 : decode cX7_ifPressed 24 = .ok (.iload_n 2, 1) := by decide +kernel
theorem dX7_ifPressed_25 : decode cX7_ifPressed 25 = .ok (.i2l, 1) := by decide +kernel
theorem dX7_ifPressed_26 : decode cX7_ifPressed 26 = .ok (.iload_n 1, 1) := by decide +kernel
theorem dX7_ifPressed_27 : decode cX7_ifPressed 27 = .ok (.invokestatic 195, 3) := by decide +kernel
theorem dX7_ifPressed_30 : decode cX7_ifPressed 30 = .ok (.lconst 0, 1) := by decide +kernel
theorem dX7_ifPressed_31 : decode cX7_ifPressed 31 = .ok (.lcmp, 1) := by decide +kernel
theorem dX7_ifPressed_32 : decode cX7_ifPressed 32 = .ok (.ifCond .eq 13, 3) := by decide +kernel
theorem dX7_ifPressed_35 : decode cX7_ifPressed 35 = .ok (.new 44, 3) := by decide +kernel
theorem dX7_ifPressed_38 : decode cX7_ifPressed 38 = .ok (.dup, 1) := by decide +kernel
theorem dX7_ifPressed_39 : decode cX7_ifPressed 39 = .ok (.ldc 201, 2) := by decide +kernel
theorem dX7_ifPressed_41 : decode cX7_ifPressed 41 = .ok (.invokespecial 48, 3) := by decide +kernel
theorem dX7_ifPressed_44 : decode cX7_ifPressed 44 = .ok (.athrow, 1) := by decide +kernel
theorem dX7_ifPressed_45 : decode cX7_ifPressed 45 = .ok (.iload_n 3, 1) := by decide +kernel
theorem dX7_ifPressed_46 : decode cX7_ifPressed 46 = .ok (.ifCond .lt 8, 3) := by decide +kernel
theorem dX7_ifPressed_49 : decode cX7_ifPressed 49 = .ok (.iload_n 3, 1) := by decide +kernel
theorem dX7_ifPressed_50 : decode cX7_ifPressed 50 = .ok (.iconst 4, 1) := by decide +kernel
theorem dX7_ifPressed_51 : decode cX7_ifPressed 51 = .ok (.if_icmp .le 13, 3) := by decide +kernel
theorem dX7_ifPressed_54 : decode cX7_ifPressed 54 = .ok (.new 44, 3) := by decide +kernel
theorem dX7_ifPressed_57 : decode cX7_ifPressed 57 = .ok (.dup, 1) := by decide +kernel
theorem dX7_ifPressed_58 : decode cX7_ifPressed 58 = .ok (.ldc 203, 2) := by decide +kernel
theorem dX7_ifPressed_60 : decode cX7_ifPressed 60 = .ok (.invokespecial 48, 3) := by decide +kernel
theorem dX7_ifPressed_63 : decode cX7_ifPressed 63 = .ok (.athrow, 1) := by decide +kernel
theorem dX7_ifPressed_64 : decode cX7_ifPressed 64 = .ok (.aload_n 0, 1) := by decide +kernel
theorem dX7_ifPressed_65 : decode cX7_ifPressed 65 = .ok (.getfield 37, 3) := by decide +kernel
theorem dX7_ifPressed_68 : decode cX7_ifPressed 68 = .ok (.aload_n 0, 1) := by decide +kernel
theorem dX7_ifPressed_69 : decode cX7_ifPressed 69 = .ok (.getfield 41, 3) := by decide +kernel
theorem dX7_ifPressed_72 : decode cX7_ifPressed 72 = .ok (.invokevirtual 205, 3) := by decide +kernel
theorem dX7_ifPressed_75 : decode cX7_ifPressed 75 = .ok (.iconst 0, 1) := by decide +kernel
theorem dX7_ifPressed_76 : decode cX7_ifPressed 76 = .ok (.istore 4, 2) := by decide +kernel
theorem dX7_ifPressed_78 : decode cX7_ifPressed 78 = .ok (.iload 4, 2) := by decide +kernel
theorem dX7_ifPressed_80 : decode cX7_ifPressed 80 = .ok (.iload_n 1, 1) := by decide +kernel
theorem dX7_ifPressed_81 : decode cX7_ifPressed 81 = .ok (.if_icmp .ge 33, 3) := by decide +kernel
theorem dX7_ifPressed_84 : decode cX7_ifPressed 84 = .ok (.aload_n 0, 1) := by decide +kernel
theorem dX7_ifPressed_85 : decode cX7_ifPressed 85 = .ok (.getfield 37, 3) := by decide +kernel
theorem dX7_ifPressed_88 : decode cX7_ifPressed 88 = .ok (.iload_n 2, 1) := by decide +kernel
theorem dX7_ifPressed_89 : decode cX7_ifPressed 89 = .ok (.i2l, 1) := by decide +kernel
theorem dX7_ifPressed_90 : decode cX7_ifPressed 90 = .ok (.iload_n 1, 1) := by decide +kernel
theorem dX7_ifPressed_91 : decode cX7_ifPressed 91 = .ok (.iconst 1, 1) := by decide +kernel
theorem dX7_ifPressed_92 : decode cX7_ifPressed 92 = .ok (.isub, 1) := by decide +kernel
theorem dX7_ifPressed_93 : decode cX7_ifPressed 93 = .ok (.iload 4, 2) := by decide +kernel
theorem dX7_ifPressed_95 : decode cX7_ifPressed 95 = .ok (.isub, 1) := by decide +kernel
theorem dX7_ifPressed_96 : decode cX7_ifPressed 96 = .ok (.invokestatic 195, 3) := by decide +kernel
theorem dX7_ifPressed_99 : decode cX7_ifPressed 99 = .ok (.ldc2_w 208, 3) := by decide +kernel
theorem dX7_ifPressed_102 : decode cX7_ifPressed 102 = .ok (.lrem, 1) := by decide +kernel
theorem dX7_ifPressed_103 : decode cX7_ifPressed 103 = .ok (.l2i, 1) := by decide +kernel
theorem dX7_ifPressed_104 : decode cX7_ifPressed 104 = .ok (.invokevirtual 161, 3) := by decide +kernel
theorem dX7_ifPressed_107 : decode cX7_ifPressed 107 = .ok (.pop, 1) := by decide +kernel
theorem dX7_ifPressed_108 : decode cX7_ifPressed 108 = .ok (.iinc 4 1, 3) := by decide +kernel
theorem dX7_ifPressed_111 : decode cX7_ifPressed 111 = .ok (.goto (-33), 3) := by decide +kernel
theorem dX7_ifPressed_114 : decode cX7_ifPressed 114 = .ok (.aload_n 0, 1) := by decide +kernel
theorem dX7_ifPressed_115 : decode cX7_ifPressed 115 = .ok (.iload_n 3, 1) := by decide +kernel
theorem dX7_ifPressed_116 : decode cX7_ifPressed 116 = .ok (.invokevirtual 210, 3) := by decide +kernel
theorem dX7_ifPressed_119 : decode cX7_ifPressed 119 = .ok (.ireturn, 1) := by decide +kernel
theorem dX7_brought_0 : decode cX7_brought 0 = .ok (.iload_n 1, 1) := by decide +kernel
theorem dX7_brought_1 : decode cX7_brought 1 = .ok (.tableswitch 88 0 3 #[31, 51, 71, 79], 31) := by decide +kernel
theorem dX7_brought_32 : decode cX7_brought 32 = .ok (.aload_n 0, 1) := by decide +kernel
theorem dX7_brought_33 : decode cX7_brought 33 = .ok (.getfield 37, 3) := by decide +kernel
theorem dX7_brought_36 : decode cX7_brought 36 = .ok (.bipush 7, 2) := by decide +kernel
theorem dX7_brought_38 : decode cX7_brought 38 = .ok (.invokevirtual 116, 3) := by decide +kernel
theorem dX7_brought_41 : decode cX7_brought 41 = .ok (.aload_n 0, 1) := by decide +kernel
theorem dX7_brought_42 : decode cX7_brought 42 = .ok (.getfield 41, 3) := by decide +kernel
theorem dX7_brought_45 : decode cX7_brought 45 = .ok (.bipush 7, 2) := by decide +kernel
theorem dX7_brought_47 : decode cX7_brought 47 = .ok (.invokevirtual 116, 3) := by decide +kernel
theorem dX7_brought_50 : decode cX7_brought 50 = .ok (.isub, 1) := by decide +kernel
theorem dX7_brought_51 : decode cX7_brought 51 = .ok (.ireturn, 1) := by decide +kernel
theorem dX7_brought_52 : decode cX7_brought 52 = .ok (.aload_n 0, 1) := by decide +kernel
theorem dX7_brought_53 : decode cX7_brought 53 = .ok (.getfield 37, 3) := by decide +kernel
theorem dX7_brought_56 : decode cX7_brought 56 = .ok (.bipush 6, 2) := by decide +kernel
theorem dX7_brought_58 : decode cX7_brought 58 = .ok (.invokevirtual 116, 3) := by decide +kernel
theorem dX7_brought_61 : decode cX7_brought 61 = .ok (.aload_n 0, 1) := by decide +kernel
theorem dX7_brought_62 : decode cX7_brought 62 = .ok (.getfield 41, 3) := by decide +kernel
theorem dX7_brought_65 : decode cX7_brought 65 = .ok (.bipush 6, 2) := by decide +kernel
theorem dX7_brought_67 : decode cX7_brought 67 = .ok (.invokevirtual 116, 3) := by decide +kernel
theorem dX7_brought_70 : decode cX7_brought 70 = .ok (.isub, 1) := by decide +kernel
theorem dX7_brought_71 : decode cX7_brought 71 = .ok (.ireturn, 1) := by decide +kernel
theorem dX7_brought_72 : decode cX7_brought 72 = .ok (.aload_n 0, 1) := by decide +kernel
theorem dX7_brought_73 : decode cX7_brought 73 = .ok (.getfield 37, 3) := by decide +kernel
theorem dX7_brought_76 : decode cX7_brought 76 = .ok (.invokevirtual 164, 3) := by decide +kernel
theorem dX7_brought_79 : decode cX7_brought 79 = .ok (.ireturn, 1) := by decide +kernel
theorem dX7_brought_80 : decode cX7_brought 80 = .ok (.aload_n 0, 1) := by decide +kernel
theorem dX7_brought_81 : decode cX7_brought 81 = .ok (.getfield 37, 3) := by decide +kernel
theorem dX7_brought_84 : decode cX7_brought 84 = .ok (.iconst 5, 1) := by decide +kernel
theorem dX7_brought_85 : decode cX7_brought 85 = .ok (.invokevirtual 116, 3) := by decide +kernel
theorem dX7_brought_88 : decode cX7_brought 88 = .ok (.ireturn, 1) := by decide +kernel
theorem dX7_brought_89 : decode cX7_brought 89 = .ok (.aload_n 0, 1) := by decide +kernel
theorem dX7_brought_90 : decode cX7_brought 90 = .ok (.getfield 37, 3) := by decide +kernel
theorem dX7_brought_93 : decode cX7_brought 93 = .ok (.iconst 1, 1) := by decide +kernel
theorem dX7_brought_94 : decode cX7_brought 94 = .ok (.invokevirtual 116, 3) := by decide +kernel
theorem dX7_brought_97 : decode cX7_brought 97 = .ok (.ireturn, 1) := by decide +kernel
theorem dX7_leftStanding_0 : decode cX7_leftStanding 0 = .ok (.aload_n 0, 1) := by decide +kernel
theorem dX7_leftStanding_1 : decode cX7_leftStanding 1 = .ok (.iload_n 1, 1) := by decide +kernel
theorem dX7_leftStanding_2 : decode cX7_leftStanding 2 = .ok (.invokevirtual 119, 3) := by decide +kernel
theorem dX7_leftStanding_5 : decode cX7_leftStanding 5 = .ok (.aload_n 0, 1) := by decide +kernel
theorem dX7_leftStanding_6 : decode cX7_leftStanding 6 = .ok (.getfield 37, 3) := by decide +kernel
theorem dX7_leftStanding_9 : decode cX7_leftStanding 9 = .ok (.aload_n 0, 1) := by decide +kernel
theorem dX7_leftStanding_10 : decode cX7_leftStanding 10 = .ok (.getfield 41, 3) := by decide +kernel
theorem dX7_leftStanding_13 : decode cX7_leftStanding 13 = .ok (.invokevirtual 205, 3) := by decide +kernel
theorem dX7_leftStanding_16 : decode cX7_leftStanding 16 = .ok (.aload_n 0, 1) := by decide +kernel
theorem dX7_leftStanding_17 : decode cX7_leftStanding 17 = .ok (.getfield 37, 3) := by decide +kernel
theorem dX7_leftStanding_20 : decode cX7_leftStanding 20 = .ok (.iload_n 1, 1) := by decide +kernel
theorem dX7_leftStanding_21 : decode cX7_leftStanding 21 = .ok (.invokevirtual 213, 3) := by decide +kernel
theorem dX7_leftStanding_24 : decode cX7_leftStanding 24 = .ok (.ireturn, 1) := by decide +kernel
theorem dX7_runScript_0 : decode cX7_runScript 0 = .ok (.iload_n 1, 1) := by decide +kernel
theorem dX7_runScript_1 : decode cX7_runScript 1 = .ok (.iconst 1, 1) := by decide +kernel
theorem dX7_runScript_2 : decode cX7_runScript 2 = .ok (.if_icmp .lt 8, 3) := by decide +kernel
theorem dX7_runScript_5 : decode cX7_runScript 5 = .ok (.iload_n 1, 1) := by decide +kernel
theorem dX7_runScript_6 : decode cX7_runScript 6 = .ok (.iconst 3, 1) := by decide +kernel
theorem dX7_runScript_7 : decode cX7_runScript 7 = .ok (.if_icmp .le 13, 3) := by decide +kernel
theorem dX7_runScript_10 : decode cX7_runScript 10 = .ok (.new 44, 3) := by decide +kernel
theorem dX7_runScript_13 : decode cX7_runScript 13 = .ok (.dup, 1) := by decide +kernel
theorem dX7_runScript_14 : decode cX7_runScript 14 = .ok (.ldc 216, 2) := by decide +kernel
theorem dX7_runScript_16 : decode cX7_runScript 16 = .ok (.invokespecial 48, 3) := by decide +kernel
theorem dX7_runScript_19 : decode cX7_runScript 19 = .ok (.athrow, 1) := by decide +kernel
theorem dX7_runScript_20 : decode cX7_runScript 20 = .ok (.lload_n 2, 1) := by decide +kernel
theorem dX7_runScript_21 : decode cX7_runScript 21 = .ok (.lconst 0, 1) := by decide +kernel
theorem dX7_runScript_22 : decode cX7_runScript 22 = .ok (.lcmp, 1) := by decide +kernel
theorem dX7_runScript_23 : decode cX7_runScript 23 = .ok (.ifCond .lt 15, 3) := by decide +kernel
theorem dX7_runScript_26 : decode cX7_runScript 26 = .ok (.lload_n 2, 1) := by decide +kernel
theorem dX7_runScript_27 : decode cX7_runScript 27 = .ok (.iconst 5, 1) := by decide +kernel
theorem dX7_runScript_28 : decode cX7_runScript 28 = .ok (.iload_n 1, 1) := by decide +kernel
theorem dX7_runScript_29 : decode cX7_runScript 29 = .ok (.imul, 1) := by decide +kernel
theorem dX7_runScript_30 : decode cX7_runScript 30 = .ok (.invokestatic 195, 3) := by decide +kernel
theorem dX7_runScript_33 : decode cX7_runScript 33 = .ok (.lconst 0, 1) := by decide +kernel
theorem dX7_runScript_34 : decode cX7_runScript 34 = .ok (.lcmp, 1) := by decide +kernel
theorem dX7_runScript_35 : decode cX7_runScript 35 = .ok (.ifCond .eq 13, 3) := by decide +kernel
theorem dX7_runScript_38 : decode cX7_runScript 38 = .ok (.new 44, 3) := by decide +kernel
theorem dX7_runScript_41 : decode cX7_runScript 41 = .ok (.dup, 1) := by decide +kernel
theorem dX7_runScript_42 : decode cX7_runScript 42 = .ok (.ldc 218, 2) := by decide +kernel
theorem dX7_runScript_44 : decode cX7_runScript 44 = .ok (.invokespecial 48, 3) := by decide +kernel
theorem dX7_runScript_47 : decode cX7_runScript 47 = .ok (.athrow, 1) := by decide +kernel
theorem dX7_runScript_48 : decode cX7_runScript 48 = .ok (.aload_n 0, 1) := by decide +kernel
theorem dX7_runScript_49 : decode cX7_runScript 49 = .ok (.getfield 37, 3) := by decide +kernel
theorem dX7_runScript_52 : decode cX7_runScript 52 = .ok (.aload_n 0, 1) := by decide +kernel
theorem dX7_runScript_53 : decode cX7_runScript 53 = .ok (.getfield 41, 3) := by decide +kernel
theorem dX7_runScript_56 : decode cX7_runScript 56 = .ok (.invokevirtual 205, 3) := by decide +kernel
theorem dX7_runScript_59 : decode cX7_runScript 59 = .ok (.iconst 0, 1) := by decide +kernel
theorem dX7_runScript_60 : decode cX7_runScript 60 = .ok (.istore 4, 2) := by decide +kernel
theorem dX7_runScript_62 : decode cX7_runScript 62 = .ok (.iload 4, 2) := by decide +kernel
theorem dX7_runScript_64 : decode cX7_runScript 64 = .ok (.iload_n 1, 1) := by decide +kernel
theorem dX7_runScript_65 : decode cX7_runScript 65 = .ok (.if_icmp .ge 43, 3) := by decide +kernel
theorem dX7_runScript_68 : decode cX7_runScript 68 = .ok (.lload_n 2, 1) := by decide +kernel
theorem dX7_runScript_69 : decode cX7_runScript 69 = .ok (.iconst 5, 1) := by decide +kernel
theorem dX7_runScript_70 : decode cX7_runScript 70 = .ok (.iload_n 1, 1) := by decide +kernel
theorem dX7_runScript_71 : decode cX7_runScript 71 = .ok (.iconst 1, 1) := by decide +kernel
theorem dX7_runScript_72 : decode cX7_runScript 72 = .ok (.isub, 1) := by decide +kernel
theorem dX7_runScript_73 : decode cX7_runScript 73 = .ok (.iload 4, 2) := by decide +kernel
theorem dX7_runScript_75 : decode cX7_runScript 75 = .ok (.isub, 1) := by decide +kernel
theorem dX7_runScript_76 : decode cX7_runScript 76 = .ok (.imul, 1) := by decide +kernel
theorem dX7_runScript_77 : decode cX7_runScript 77 = .ok (.invokestatic 195, 3) := by decide +kernel
theorem dX7_runScript_80 : decode cX7_runScript 80 = .ok (.ldc2_w 220, 3) := by decide +kernel
theorem dX7_runScript_83 : decode cX7_runScript 83 = .ok (.lrem, 1) := by decide +kernel
theorem dX7_runScript_84 : decode cX7_runScript 84 = .ok (.l2i, 1) := by decide +kernel
theorem dX7_runScript_85 : decode cX7_runScript 85 = .ok (.istore 5, 2) := by decide +kernel
theorem dX7_runScript_87 : decode cX7_runScript 87 = .ok (.aload_n 0, 1) := by decide +kernel
theorem dX7_runScript_88 : decode cX7_runScript 88 = .ok (.getfield 37, 3) := by decide +kernel
theorem dX7_runScript_91 : decode cX7_runScript 91 = .ok (.iload 5, 2) := by decide +kernel
theorem dX7_runScript_93 : decode cX7_runScript 93 = .ok (.invokestatic 222, 3) := by decide +kernel
theorem dX7_runScript_96 : decode cX7_runScript 96 = .ok (.ifCond .ne 6, 3) := by decide +kernel
theorem dX7_runScript_99 : decode cX7_runScript 99 = .ok (.iload 4, 2) := by decide +kernel
theorem dX7_runScript_101 : decode cX7_runScript 101 = .ok (.ireturn, 1) := by decide +kernel
theorem dX7_runScript_102 : decode cX7_runScript 102 = .ok (.iinc 4 1, 3) := by decide +kernel
theorem dX7_runScript_105 : decode cX7_runScript 105 = .ok (.goto (-43), 3) := by decide +kernel
theorem dX7_runScript_108 : decode cX7_runScript 108 = .ok (.iconst (-1), 1) := by decide +kernel
theorem dX7_runScript_109 : decode cX7_runScript 109 = .ok (.ireturn, 1) := by decide +kernel
theorem dX7_simulate_0 : decode cX7_simulate 0 = .ok (.iload_n 3, 1) := by decide +kernel
theorem dX7_simulate_1 : decode cX7_simulate 1 = .ok (.iconst 1, 1) := by decide +kernel
theorem dX7_simulate_2 : decode cX7_simulate 2 = .ok (.if_icmp .lt 9, 3) := by decide +kernel
theorem dX7_simulate_5 : decode cX7_simulate 5 = .ok (.iload_n 3, 1) := by decide +kernel
theorem dX7_simulate_6 : decode cX7_simulate 6 = .ok (.bipush 100, 2) := by decide +kernel
theorem dX7_simulate_8 : decode cX7_simulate 8 = .ok (.if_icmp .le 13, 3) := by decide +kernel
theorem dX7_simulate_11 : decode cX7_simulate 11 = .ok (.new 44, 3) := by decide +kernel
theorem dX7_simulate_14 : decode cX7_simulate 14 = .ok (.dup, 1) := by decide +kernel
theorem dX7_simulate_15 : decode cX7_simulate 15 = .ok (.ldc 228, 2) := by decide +kernel
theorem dX7_simulate_17 : decode cX7_simulate 17 = .ok (.invokespecial 48, 3) := by decide +kernel
theorem dX7_simulate_20 : decode cX7_simulate 20 = .ok (.athrow, 1) := by decide +kernel
theorem dX7_simulate_21 : decode cX7_simulate 21 = .ok (.aload_n 0, 1) := by decide +kernel
theorem dX7_simulate_22 : decode cX7_simulate 22 = .ok (.getfield 37, 3) := by decide +kernel
theorem dX7_simulate_25 : decode cX7_simulate 25 = .ok (.aload_n 0, 1) := by decide +kernel
theorem dX7_simulate_26 : decode cX7_simulate 26 = .ok (.getfield 41, 3) := by decide +kernel
theorem dX7_simulate_29 : decode cX7_simulate 29 = .ok (.invokevirtual 205, 3) := by decide +kernel
theorem dX7_simulate_32 : decode cX7_simulate 32 = .ok (.lload_n 1, 1) := by decide +kernel
theorem dX7_simulate_33 : decode cX7_simulate 33 = .ok (.lstore 4, 2) := by decide +kernel
theorem dX7_simulate_35 : decode cX7_simulate 35 = .ok (.iconst 0, 1) := by decide +kernel
theorem dX7_simulate_36 : decode cX7_simulate 36 = .ok (.istore 6, 2) := by decide +kernel
theorem dX7_simulate_38 : decode cX7_simulate 38 = .ok (.iload 6, 2) := by decide +kernel
theorem dX7_simulate_40 : decode cX7_simulate 40 = .ok (.iload_n 3, 1) := by decide +kernel
theorem dX7_simulate_41 : decode cX7_simulate 41 = .ok (.if_icmp .ge 34, 3) := by decide +kernel
theorem dX7_simulate_44 : decode cX7_simulate 44 = .ok (.lload 4, 2) := by decide +kernel
theorem dX7_simulate_46 : decode cX7_simulate 46 = .ok (.ldc2_w 230, 3) := by decide +kernel
theorem dX7_simulate_49 : decode cX7_simulate 49 = .ok (.lmul, 1) := by decide +kernel
theorem dX7_simulate_50 : decode cX7_simulate 50 = .ok (.ldc2_w 232, 3) := by decide +kernel
theorem dX7_simulate_53 : decode cX7_simulate 53 = .ok (.ladd, 1) := by decide +kernel
theorem dX7_simulate_54 : decode cX7_simulate 54 = .ok (.lstore 4, 2) := by decide +kernel
theorem dX7_simulate_56 : decode cX7_simulate 56 = .ok (.aload_n 0, 1) := by decide +kernel
theorem dX7_simulate_57 : decode cX7_simulate 57 = .ok (.getfield 37, 3) := by decide +kernel
theorem dX7_simulate_60 : decode cX7_simulate 60 = .ok (.lload 4, 2) := by decide +kernel
theorem dX7_simulate_62 : decode cX7_simulate 62 = .ok (.bipush 33, 2) := by decide +kernel
theorem dX7_simulate_64 : decode cX7_simulate 64 = .ok (.lushr, 1) := by decide +kernel
theorem dX7_simulate_65 : decode cX7_simulate 65 = .ok (.l2i, 1) := by decide +kernel
theorem dX7_simulate_66 : decode cX7_simulate 66 = .ok (.invokestatic 234, 3) := by decide +kernel
theorem dX7_simulate_69 : decode cX7_simulate 69 = .ok (.iinc 6 1, 3) := by decide +kernel
theorem dX7_simulate_72 : decode cX7_simulate 72 = .ok (.goto (-34), 3) := by decide +kernel
theorem dX7_simulate_75 : decode cX7_simulate 75 = .ok (.aload_n 0, 1) := by decide +kernel
theorem dX7_simulate_76 : decode cX7_simulate 76 = .ok (.getfield 37, 3) := by decide +kernel
theorem dX7_simulate_79 : decode cX7_simulate 79 = .ok (.bipush 7, 2) := by decide +kernel
theorem dX7_simulate_81 : decode cX7_simulate 81 = .ok (.invokevirtual 116, 3) := by decide +kernel
theorem dX7_simulate_84 : decode cX7_simulate 84 = .ok (.aload_n 0, 1) := by decide +kernel
theorem dX7_simulate_85 : decode cX7_simulate 85 = .ok (.getfield 41, 3) := by decide +kernel
theorem dX7_simulate_88 : decode cX7_simulate 88 = .ok (.bipush 7, 2) := by decide +kernel
theorem dX7_simulate_90 : decode cX7_simulate 90 = .ok (.invokevirtual 116, 3) := by decide +kernel
theorem dX7_simulate_93 : decode cX7_simulate 93 = .ok (.isub, 1) := by decide +kernel
theorem dX7_simulate_94 : decode cX7_simulate 94 = .ok (.istore 6, 2) := by decide +kernel
theorem dX7_simulate_96 : decode cX7_simulate 96 = .ok (.aload_n 0, 1) := by decide +kernel
theorem dX7_simulate_97 : decode cX7_simulate 97 = .ok (.getfield 37, 3) := by decide +kernel
theorem dX7_simulate_100 : decode cX7_simulate 100 = .ok (.bipush 11, 2) := by decide +kernel
theorem dX7_simulate_102 : decode cX7_simulate 102 = .ok (.invokevirtual 116, 3) := by decide +kernel
theorem dX7_simulate_105 : decode cX7_simulate 105 = .ok (.aload_n 0, 1) := by decide +kernel
theorem dX7_simulate_106 : decode cX7_simulate 106 = .ok (.getfield 41, 3) := by decide +kernel
theorem dX7_simulate_109 : decode cX7_simulate 109 = .ok (.bipush 11, 2) := by decide +kernel
theorem dX7_simulate_111 : decode cX7_simulate 111 = .ok (.invokevirtual 116, 3) := by decide +kernel
theorem dX7_simulate_114 : decode cX7_simulate 114 = .ok (.isub, 1) := by decide +kernel
theorem dX7_simulate_115 : decode cX7_simulate 115 = .ok (.istore 7, 2) := by decide +kernel
theorem dX7_simulate_117 : decode cX7_simulate 117 = .ok (.sipush 10000, 3) := by decide +kernel
theorem dX7_simulate_120 : decode cX7_simulate 120 = .ok (.iload 6, 2) := by decide +kernel
theorem dX7_simulate_122 : decode cX7_simulate 122 = .ok (.imul, 1) := by decide +kernel
theorem dX7_simulate_123 : decode cX7_simulate 123 = .ok (.bipush 100, 2) := by decide +kernel
theorem dX7_simulate_125 : decode cX7_simulate 125 = .ok (.iload 7, 2) := by decide +kernel
theorem dX7_simulate_127 : decode cX7_simulate 127 = .ok (.imul, 1) := by decide +kernel
theorem dX7_simulate_128 : decode cX7_simulate 128 = .ok (.iadd, 1) := by decide +kernel
theorem dX7_simulate_129 : decode cX7_simulate 129 = .ok (.aload_n 0, 1) := by decide +kernel
theorem dX7_simulate_130 : decode cX7_simulate 130 = .ok (.getfield 37, 3) := by decide +kernel
theorem dX7_simulate_133 : decode cX7_simulate 133 = .ok (.invokevirtual 164, 3) := by decide +kernel
theorem dX7_simulate_136 : decode cX7_simulate 136 = .ok (.iadd, 1) := by decide +kernel
theorem dX7_simulate_137 : decode cX7_simulate 137 = .ok (.ireturn, 1) := by decide +kernel
theorem dX7_save_0 : decode cX7_save 0 = .ok (.aload_n 0, 1) := by decide +kernel
theorem dX7_save_1 : decode cX7_save 1 = .ok (.iload_n 1, 1) := by decide +kernel
theorem dX7_save_2 : decode cX7_save 2 = .ok (.invokevirtual 240, 3) := by decide +kernel
theorem dX7_save_5 : decode cX7_save 5 = .ok (.aload_n 0, 1) := by decide +kernel
theorem dX7_save_6 : decode cX7_save 6 = .ok (.getfield 32, 3) := by decide +kernel
theorem dX7_save_9 : decode cX7_save 9 = .ok (.iload_n 1, 1) := by decide +kernel
theorem dX7_save_10 : decode cX7_save 10 = .ok (.aaload, 1) := by decide +kernel
theorem dX7_save_11 : decode cX7_save 11 = .ok (.astore_n 2, 1) := by decide +kernel
theorem dX7_save_12 : decode cX7_save 12 = .ok (.aload_n 2, 1) := by decide +kernel
theorem dX7_save_13 : decode cX7_save 13 = .ok (.ifnonnull 18, 3) := by decide +kernel
theorem dX7_save_16 : decode cX7_save 16 = .ok (.new 30, 3) := by decide +kernel
theorem dX7_save_19 : decode cX7_save 19 = .ok (.dup, 1) := by decide +kernel
theorem dX7_save_20 : decode cX7_save 20 = .ok (.invokespecial 36, 3) := by decide +kernel
theorem dX7_save_23 : decode cX7_save 23 = .ok (.astore_n 2, 1) := by decide +kernel
theorem dX7_save_24 : decode cX7_save 24 = .ok (.aload_n 0, 1) := by decide +kernel
theorem dX7_save_25 : decode cX7_save 25 = .ok (.getfield 32, 3) := by decide +kernel
theorem dX7_save_28 : decode cX7_save 28 = .ok (.iload_n 1, 1) := by decide +kernel
theorem dX7_save_29 : decode cX7_save 29 = .ok (.aload_n 2, 1) := by decide +kernel
theorem dX7_save_30 : decode cX7_save 30 = .ok (.aastore, 1) := by decide +kernel
theorem dX7_save_31 : decode cX7_save 31 = .ok (.aload_n 2, 1) := by decide +kernel
theorem dX7_save_32 : decode cX7_save 32 = .ok (.aload_n 0, 1) := by decide +kernel
theorem dX7_save_33 : decode cX7_save 33 = .ok (.getfield 41, 3) := by decide +kernel
theorem dX7_save_36 : decode cX7_save 36 = .ok (.invokevirtual 205, 3) := by decide +kernel
theorem dX7_save_39 : decode cX7_save 39 = .ok (.aload_n 0, 1) := by decide +kernel
theorem dX7_save_40 : decode cX7_save 40 = .ok (.getfield 41, 3) := by decide +kernel
theorem dX7_save_43 : decode cX7_save 43 = .ok (.bipush 6, 2) := by decide +kernel
theorem dX7_save_45 : decode cX7_save 45 = .ok (.invokevirtual 116, 3) := by decide +kernel
theorem dX7_save_48 : decode cX7_save 48 = .ok (.ireturn, 1) := by decide +kernel
theorem dX7_restore_0 : decode cX7_restore 0 = .ok (.aload_n 0, 1) := by decide +kernel
theorem dX7_restore_1 : decode cX7_restore 1 = .ok (.iload_n 1, 1) := by decide +kernel
theorem dX7_restore_2 : decode cX7_restore 2 = .ok (.invokevirtual 240, 3) := by decide +kernel
theorem dX7_restore_5 : decode cX7_restore 5 = .ok (.aload_n 0, 1) := by decide +kernel
theorem dX7_restore_6 : decode cX7_restore 6 = .ok (.getfield 32, 3) := by decide +kernel
theorem dX7_restore_9 : decode cX7_restore 9 = .ok (.iload_n 1, 1) := by decide +kernel
theorem dX7_restore_10 : decode cX7_restore 10 = .ok (.aaload, 1) := by decide +kernel
theorem dX7_restore_11 : decode cX7_restore 11 = .ok (.astore_n 2, 1) := by decide +kernel
theorem dX7_restore_12 : decode cX7_restore 12 = .ok (.aload_n 2, 1) := by decide +kernel
theorem dX7_restore_13 : decode cX7_restore 13 = .ok (.ifnonnull 13, 3) := by decide +kernel
theorem dX7_restore_16 : decode cX7_restore 16 = .ok (.new 55, 3) := by decide +kernel
theorem dX7_restore_19 : decode cX7_restore 19 = .ok (.dup, 1) := by decide +kernel
theorem dX7_restore_20 : decode cX7_restore 20 = .ok (.ldc 243, 2) := by decide +kernel
theorem dX7_restore_22 : decode cX7_restore 22 = .ok (.invokespecial 59, 3) := by decide +kernel
theorem dX7_restore_25 : decode cX7_restore 25 = .ok (.athrow, 1) := by decide +kernel
theorem dX7_restore_26 : decode cX7_restore 26 = .ok (.aload_n 0, 1) := by decide +kernel
theorem dX7_restore_27 : decode cX7_restore 27 = .ok (.getfield 41, 3) := by decide +kernel
theorem dX7_restore_30 : decode cX7_restore 30 = .ok (.aload_n 2, 1) := by decide +kernel
theorem dX7_restore_31 : decode cX7_restore 31 = .ok (.invokevirtual 205, 3) := by decide +kernel
theorem dX7_restore_34 : decode cX7_restore 34 = .ok (.aload_n 0, 1) := by decide +kernel
theorem dX7_restore_35 : decode cX7_restore 35 = .ok (.getfield 19, 3) := by decide +kernel
theorem dX7_restore_38 : decode cX7_restore 38 = .ok (.invokevirtual 73, 3) := by decide +kernel
theorem dX7_restore_41 : decode cX7_restore 41 = .ok (.aload_n 0, 1) := by decide +kernel
theorem dX7_restore_42 : decode cX7_restore 42 = .ok (.getfield 41, 3) := by decide +kernel
theorem dX7_restore_45 : decode cX7_restore 45 = .ok (.bipush 6, 2) := by decide +kernel
theorem dX7_restore_47 : decode cX7_restore 47 = .ok (.invokevirtual 116, 3) := by decide +kernel
theorem dX7_restore_50 : decode cX7_restore 50 = .ok (.ireturn, 1) := by decide +kernel
theorem dX7_requireGuest_0 : decode cX7_requireGuest 0 = .ok (.aload_n 0, 1) := by decide +kernel
theorem dX7_requireGuest_1 : decode cX7_requireGuest 1 = .ok (.getfield 41, 3) := by decide +kernel
theorem dX7_requireGuest_4 : decode cX7_requireGuest 4 = .ok (.iload_n 1, 1) := by decide +kernel
theorem dX7_requireGuest_5 : decode cX7_requireGuest 5 = .ok (.invokevirtual 245, 3) := by decide +kernel
theorem dX7_requireGuest_8 : decode cX7_requireGuest 8 = .ok (.ifCond .ne 13, 3) := by decide +kernel
theorem dX7_requireGuest_11 : decode cX7_requireGuest 11 = .ok (.new 131, 3) := by decide +kernel
theorem dX7_requireGuest_14 : decode cX7_requireGuest 14 = .ok (.dup, 1) := by decide +kernel
theorem dX7_requireGuest_15 : decode cX7_requireGuest 15 = .ok (.ldc 248, 2) := by decide +kernel
theorem dX7_requireGuest_17 : decode cX7_requireGuest 17 = .ok (.invokespecial 135, 3) := by decide +kernel
theorem dX7_requireGuest_20 : decode cX7_requireGuest 20 = .ok (.athrow, 1) := by decide +kernel
theorem dX7_requireGuest_21 : decode cX7_requireGuest 21 = .ok (.return_, 1) := by decide +kernel
theorem dX7_requireSlot_0 : decode cX7_requireSlot 0 = .ok (.iload_n 1, 1) := by decide +kernel
theorem dX7_requireSlot_1 : decode cX7_requireSlot 1 = .ok (.ifCond .lt 12, 3) := by decide +kernel
theorem dX7_requireSlot_4 : decode cX7_requireSlot 4 = .ok (.iload_n 1, 1) := by decide +kernel
theorem dX7_requireSlot_5 : decode cX7_requireSlot 5 = .ok (.aload_n 0, 1) := by decide +kernel
theorem dX7_requireSlot_6 : decode cX7_requireSlot 6 = .ok (.getfield 32, 3) := by decide +kernel
theorem dX7_requireSlot_9 : decode cX7_requireSlot 9 = .ok (.arraylength, 1) := by decide +kernel
theorem dX7_requireSlot_10 : decode cX7_requireSlot 10 = .ok (.if_icmp .lt 13, 3) := by decide +kernel
theorem dX7_requireSlot_13 : decode cX7_requireSlot 13 = .ok (.new 131, 3) := by decide +kernel
theorem dX7_requireSlot_16 : decode cX7_requireSlot 16 = .ok (.dup, 1) := by decide +kernel
theorem dX7_requireSlot_17 : decode cX7_requireSlot 17 = .ok (.ldc 250, 2) := by decide +kernel
theorem dX7_requireSlot_19 : decode cX7_requireSlot 19 = .ok (.invokespecial 135, 3) := by decide +kernel
theorem dX7_requireSlot_22 : decode cX7_requireSlot 22 = .ok (.athrow, 1) := by decide +kernel
theorem dX7_requireSlot_23 : decode cX7_requireSlot 23 = .ok (.return_, 1) := by decide +kernel
